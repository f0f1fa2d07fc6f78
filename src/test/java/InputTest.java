/** Promises 1 to 6: the new object, the input buffer, configuration texts and their errors. */
public final class InputTest {
    private static final Check check = new Check();

    public static void main(String[] args) {
        newObject();
        appendAndTruncate();
        goodTexts();
        errors();
        firstErrorCounts();
        errorChangesNothingElse();
        goodTextReplacesEverything();
        sumsAreForgotten();
        check.finish();
    }

    private static void newObject() {
        FlowExporter x = new FlowExporter();
        check.due("new now", x.now(), 0);
        check.due("new errorCode", x.errorCode(), 0);
        check.due("new errorPosition", x.errorPosition(), -1);
        check.due("new rate", x.rate(), 1);
        check.due("new cacheSize", x.cacheSize(), 0);
        check.due("new templateCount", x.templateCount(), 1);
        check.due("new templateFields", x.templateFields(0), 511);
        check.due("new effectiveFields", x.effectiveFields(0), 511);
        check.due("new recordLength", x.recordLength(0), 29);
        for (int k = 0; k < 9; k++) {
            check.due("new fieldAt " + k, x.fieldAt(0, k), k);
        }
        check.due("new queueLength", x.queueLength(), 0);
        check.due("new keyCount", x.keyCount(), 0);
        check.due("new expected", x.expected(), -1);
        check.due("new truncateInput", x.truncateInput(0), 0);
        check.due("new setAdaptive", x.setAdaptive(true), false);
        for (int k = 0; k < 9; k++) {
            check.due("new counter " + k, x.counter(k), 0);
        }
    }

    private static void appendAndTruncate() {
        FlowExporter x = new FlowExporter();
        for (int k = 1; k <= 35; k++) {
            check.due("append " + k, x.appendInput(0x20202020, 0x20202020, 0x20202020, 0x20202020, 0x20202020), 20 * k);
        }
        check.due("append to 700 bytes", x.appendInput(0, 0, 0, 0, 0), -1);
        check.due("nothing was appended", x.truncateInput(701), -1);
        check.due("truncate to 700", x.truncateInput(700), 700);
        check.due("truncate to 681", x.truncateInput(681), 681);
        check.due("append to 681 bytes", x.appendInput(0, 0, 0, 0, 0), -1);
        check.due("truncate to -1", x.truncateInput(-1), -1);
        check.due("truncate to 680", x.truncateInput(680), 680);
        check.due("append to 680 bytes", x.appendInput(0x20202020, 0x20202020, 0x20202020, 0x20202020, 0x2020203b), 700);
        check.due("load", x.load(), -2);
        check.due("the last byte", x.errorPosition(), 699);
        check.due("load empties the buffer", x.truncateInput(1), -1);
        // "sampling 1024;budget 7;", the most significant byte first.
        x.appendInput(0x73616d70, 0x6c696e67, 0x20313032, 0x343b6275, 0x64676574);
        x.appendInput(0x20373b00, 0, 0, 0, 0);
        x.truncateInput(23);
        check.due("load of two statements", x.load(), 2);
        check.due("its rate", x.rate(), 1024);
        x.appendInput(0, 0, 0, 0, 0);
        x.receive();
        check.due("receive empties the buffer", x.truncateInput(1), -1);
    }

    private static void good(String text, int statements) {
        FlowExporter x = new FlowExporter();
        check.due("load of '" + text + "'", Check.load(x, text), statements);
        check.due("errorCode of '" + text + "'", x.errorCode(), 0);
        check.due("errorPosition of '" + text + "'", x.errorPosition(), -1);
    }

    private static void goodTexts() {
        good("", 0);
        good(" \n \n", 0);
        good("sampling1;", 1);
        good("sampling\n1\n;\n", 1);
        good("sampling 1;sampling 1024;budget 1;budget 1000;active 1;active 10000;", 6);
        good("inactive 1;inactive 10000;refresh 1 1;refresh 1000 100000;", 4);
        good("lifetime 1;lifetime 100000;length 256;length 600;assume 1;assume 1024;", 6);
        good("template source;use 0 0;use 255 0;use 255 0;drop rate;drop rate;", 6);
        good("template source;template source;template source;template source;", 4);
        good("template rate last first bytes packets protocol port destination source;", 1);
        good("sampling 000007;", 1);
        good("template port;use 1 0;template port;use 1 1;", 4);
        FlowExporter x = Check.loaded("sampling 7;sampling 9;");
        check.due("the last one counts", x.rate(), 9);
        x = Check.loaded("template source;template port;use 6 1;use 6 0;drop source;");
        x.observe(1, 1, 1, 6, 1);
        x.flush();
        check.due("the last use counts", x.unsent(), 1);
    }

    private static void bad(String text, int code, int position) {
        FlowExporter x = new FlowExporter();
        check.due("load of '" + text + "'", Check.load(x, text), -2);
        check.due("errorCode of '" + text + "'", x.errorCode(), code);
        check.due("errorPosition of '" + text + "'", x.errorPosition(), position);
        check.due("load after '" + text + "'", x.load(), 0);
        check.due("errorCode after '" + text + "'", x.errorCode(), 0);
        check.due("errorPosition after '" + text + "'", x.errorPosition(), -1);
    }

    private static void errors() {
        bad("go", 1, 0);
        bad(" ;", 1, 1);
        bad("5;", 1, 0);
        bad("source;", 1, 0);
        bad("sampling", 1, 8);
        bad("sampling  \n", 1, 11);
        bad("sampling ;", 1, 9);
        bad("sampling x;", 1, 9);
        bad("sampling 5", 1, 10);
        bad("sampling 5 5;", 1, 11);
        bad("sampling 5;;", 1, 11);
        bad("sampling 5;\t", 1, 11);
        bad("sampling 5;\r\n", 1, 11);
        bad("Sampling 5;", 1, 0);
        bad("sAmpling 5;", 1, 0);
        bad("sampling -5;", 1, 9);
        bad("samplin 5;", 1, 0);
        bad("samplings 5;", 1, 0);
        bad("samplingz 5;", 1, 0);
        bad("samplinga 5;", 1, 0);
        bad("sampling{5;", 1, 8);
        bad("sampling`5;", 1, 8);
        bad("sampling 5:", 1, 10);
        bad("sampling 5/;", 1, 10);
        bad("abcdefghijkl 5;", 1, 0);
        bad("abcdefghijklm 5;", 1, 0);
        bad("sampling 0000007;", 1, 9);
        bad("sampling 1000000;", 1, 9);
        bad("sampling 99999999999999999999;", 1, 9);
        bad("sampling 4294967297;", 1, 9);
        bad("sampling " + (char) 233 + ";", 1, 9);
        bad("sampling " + (char) 0 + ";", 1, 9);
        bad("-", 1, 0);
        bad("- 5;", 1, 0);
        bad("sampling 0;", 2, 9);
        bad("sampling 1025;", 2, 9);
        bad("sampling 999999;", 2, 9);
        bad("budget 0;", 2, 7);
        bad("budget 1001;", 2, 7);
        bad("active 0;", 2, 7);
        bad("active 10001;", 2, 7);
        bad("inactive 0;", 2, 9);
        bad("inactive 10001;", 2, 9);
        bad("refresh 0 5;", 2, 8);
        bad("refresh 1001 5;", 2, 8);
        bad("refresh 5 0;", 2, 10);
        bad("refresh 5 100001;", 2, 10);
        bad("refresh 5;", 1, 9);
        bad("refresh 5 5", 1, 11);
        bad("refresh 5 5 5;", 1, 12);
        bad("lifetime 0;", 2, 9);
        bad("lifetime 100001;", 2, 9);
        bad("length 255;", 2, 7);
        bad("length 601;", 2, 7);
        bad("assume 0;", 2, 7);
        bad("assume 1025;", 2, 7);
        bad("template", 1, 8);
        bad("template ;", 1, 9);
        bad("template 5;", 1, 9);
        bad("template source", 1, 15);
        bad("template source 5;", 1, 16);
        bad("template source sourc;", 1, 16);
        bad("template sampling;", 1, 9);
        bad("template source destination port protocol packets bytes first last rate source;", 3, 72);
        bad("template source destination port protocol packets bytes first last rate x;", 1, 72);
        bad("template source destination port protocol packets bytes first last rate", 1, 71);
        bad("template port source port;", 3, 21);
        bad("use", 1, 3);
        bad("use 6 0;", 2, 6);
        bad("template port;use 6 1;", 2, 20);
        bad("use 6 0;template port;", 2, 6);
        bad("template port;use 256 0;", 2, 18);
        bad("template port;use 6;", 1, 19);
        bad("template port;use port 0;", 1, 18);
        bad("template port;use 6 port;", 1, 20);
        bad("template port;use 6 0 0;", 1, 22);
        bad("drop", 1, 4);
        bad("drop;", 1, 4);
        bad("drop 5;", 1, 5);
        bad("drop rates;", 1, 5);
        bad("drop rate port;", 1, 10);
        bad("template port;template port;template port;template port;template", 4, 56);
        bad("template port;template port;template port;template port; template $", 4, 57);
    }

    private static void firstErrorCounts() {
        bad("sampling 0 $", 2, 9);
        bad("template port port $", 3, 14);
        bad("$ sampling 0;", 1, 0);
        bad("sampling $ 0;", 1, 9);
        bad("budget 5;sampling 5000;template port port;", 2, 18);
    }

    private static void errorChangesNothingElse() {
        FlowExporter x = Check.loaded("sampling 3;template port;drop bytes;");
        x.advance(7);
        x.observeMany(1, 2, 3, 4, 5, 50);
        long sampled = x.sampled();
        int cache = x.cacheSize();
        check.due("an error", Check.load(x, "sampling 9;template source rate;drop port;budget 0;"), -2);
        check.due("now after an error", x.now(), 7);
        check.due("rate after an error", x.rate(), 3);
        check.due("templateFields after an error", x.templateFields(0), 4);
        check.due("effectiveFields after an error", x.effectiveFields(0), 4);
        check.due("sampled after an error", x.sampled(), sampled);
        check.due("cacheSize after an error", x.cacheSize(), cache);
        check.due("truth after an error", x.truth(1, 2, 3, 4, 1), 250);
        check.due("the buffer is empty", x.truncateInput(1), -1);
    }

    private static void goodTextReplacesEverything() {
        FlowExporter x = Check.loaded("template port;template source packets;use 9 1;drop bytes;length 256;budget 1;");
        x.setSeed(99);
        x.setAdaptive(true);
        x.observeMany(7, 7, 7, 7, 7, 5);
        for (int k = 0; k < 20; k++) {
            x.observe(k, k, k, 9, 9);
            x.flush();
        }
        check.due("dropped before", x.dropped(), 8);
        x.deliver(0);
        x.receive();
        x.setSupport(2, false);
        x.observe(1, 1, 1, 1, 1);
        x.flush();
        check.due("unsent before", x.unsent(), 1);
        x.advance(10);
        x.observe(1, 1, 1, 1, 1);
        check.due("an empty text", Check.load(x, ""), 0);
        likeNew(x);
    }

    private static void likeNew(FlowExporter x) {
        check.due("now", x.now(), 0);
        check.due("setAdaptive", x.setAdaptive(false), false);
        check.due("templateCount", x.templateCount(), 1);
        check.due("templateFields", x.templateFields(0), 511);
        check.due("effectiveFields", x.effectiveFields(0), 511);
        check.due("isDue", x.isDue(0), true);
        check.due("cacheSize", x.cacheSize(), 0);
        check.due("queueLength", x.queueLength(), 0);
        check.due("dropped", x.dropped(), 0);
        check.due("observed", x.observed(), 0);
        check.due("sampled", x.sampled(), 0);
        check.due("sent", x.sent(), 0);
        check.due("sequence", x.sequence(), 0);
        check.due("unsent", x.unsent(), 0);
        check.due("knownTemplates", x.knownTemplates(), 0);
        check.due("templateAge", x.templateAge(1), -1);
        check.due("expected", x.expected(), -1);
        check.due("keyCount", x.keyCount(), 0);
        check.due("truth", x.truth(7, 7, 7, 7, 0), 0);
        check.due("truth of another", x.truth(1, 1, 1, 1, 0), 0);
        for (int k = 0; k < 9; k++) {
            check.due("counter " + k, x.counter(k), 0);
        }
        // x is 1 again: the draws are those of a new object.
        FlowExporter y = new FlowExporter();
        x.setRate(5);
        y.setRate(5);
        for (int k = 0; k < 30; k++) {
            check.due("draw " + k, x.observe(1, 1, 1, 9, 1), y.observe(1, 1, 1, 9, 1));
        }
        x.flush();
        y.flush();
        check.dueObject("the template of a protocol", Check.hex(Check.message(x, 0)), Check.hex(Check.message(y, 0)));
        x.deliverAll();
        y.deliverAll();
        for (int what = 0; what < 2; what++) {
            check.due("raw", x.raw(0, what), y.raw(0, what));
            check.due("estimate", x.estimate(0, what), y.estimate(0, what));
            check.dueDouble("upper", x.upper(0, what), y.upper(0, what));
        }
        x.setAdaptive(true);
        x.advance(100);
        check.due("the exports before do not count", x.rate(), 2);
    }

    private static void sumsAreForgotten() {
        FlowExporter x = new FlowExporter();
        for (int round = 0; round < 2; round++) {
            x.setRate(2);
            x.setSeed(1);
            x.observeMany(1, 1, 1, 1, 100, 200);
            x.flush();
            x.deliverAll();
            FlowExporter y = new FlowExporter();
            y.setRate(2);
            y.observeMany(1, 1, 1, 1, 100, 200);
            y.flush();
            y.deliverAll();
            for (int what = 0; what < 2; what++) {
                check.due("raw of round " + round, x.raw(0, what), y.raw(0, what));
                check.due("estimate of round " + round, x.estimate(0, what), y.estimate(0, what));
                check.dueDouble("upper of round " + round, x.upper(0, what), y.upper(0, what));
            }
            Check.load(x, "");
        }
    }
}
