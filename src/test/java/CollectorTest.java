/** Promises 37, 38 and 42 to 48: what the collector receives, decodes and counts. */
public final class CollectorTest {
    /** Template 0: source; the records behind it are bytes. */
    private static final String SOURCE = "0002 000c 0100 0001 0000 0001";
    private static final Check check = new Check();

    public static void main(String[] args) {
        malformedHeaders();
        malformedSets();
        templateSets();
        dataSets();
        duplicates();
        lostAndLate();
        restarts();
        recordsOfTheHeader();
        lifetime();
        restartOfTheCollector();
        overflow();
        wrongArguments();
        lossRate();
        check.finish();
    }

    private static int put(FlowExporter x, int time, int sequence, int records, String sets) {
        return Check.receive(x, Check.framed(time, sequence, records, sets));
    }

    private static void counters(String name, FlowExporter x, long... want) {
        for (int k = 0; k < want.length; k++) {
            check.due(name + ", counter " + k, x.counter(k), want[k]);
        }
    }

    private static void malformedHeaders() {
        FlowExporter x = new FlowExporter();
        String[] wrong = {"", "00", "000a000f 00000000 00000000 000000", "000b0010 00000000 00000000 00000000",
            "010a0010 00000000 00000000 00000000", "000a0011 00000000 00000000 00000000",
            "000a000f 00000000 00000000 00000000", "000a0110 00000000 00000000 00000000"};
        for (int k = 0; k < wrong.length; k++) {
            check.due("receive '" + wrong[k] + "'", Check.receive(x, Check.bytes(wrong[k])), 0);
            counters("after '" + wrong[k] + "'", x, 0, 0, 0, 0, k + 1, 0, 0, 0, k + 1);
            check.due("expected", x.expected(), -1);
            check.due("the buffer is empty", x.truncateInput(1), -1);
        }
        check.due("receive a header alone", put(x, 0, 5, 2, ""), 0);
        counters("after a header", x, 0, 0, 0, 0, wrong.length, 0, 0, 0, wrong.length + 1);
        check.due("expected", x.expected(), 7);
    }

    private static void malformedSets() {
        String[] wrong = {"00", "0100", "010000", "01000003", "01000000", "01000005", "0100ffff",
            SOURCE + "01000007 0102", SOURCE + "01000006 0102 00", SOURCE + "01000006 0102 0100000501 0100"};
        int[] decoded = {0, 0, 0, 0, 0, 0, 0, 0, 2, 3};
        for (int k = 0; k < wrong.length; k++) {
            FlowExporter x = new FlowExporter();
            check.due("receive " + wrong[k], put(x, 0, 0, 0, wrong[k]), decoded[k]);
            check.due("malformed, too: " + wrong[k], x.counter(4), 1);
            check.due("expected: " + wrong[k], x.expected(), 0);
            check.due("decoded: " + wrong[k], x.counter(7), decoded[k]);
        }
        FlowExporter x = new FlowExporter();
        check.due("sets without content", put(x, 0, 0, 0, "00020004 01000004 00ff0004"), 0);
        counters("sets without content", x, 0, 0, 0, 1, 0, 0, 0, 0, 1);
    }

    private static int known(String templates) {
        FlowExporter x = new FlowExporter();
        byte[] body = Check.bytes(templates);
        put(x, 0, 0, 0, String.format("0002%04x", 4 + body.length) + Check.hex(body));
        check.due("no counter for " + templates, x.counter(4), 0);
        return x.knownTemplates();
    }

    private static void templateSets() {
        String good = "0101 0001 0002 0002";
        check.due("two templates", known("0100 0001 0000 0001" + good), 3);
        check.due("ids", known("0102 0001 0000 0001 0103 0001 0000 0001"), 12);
        check.due("id 255", known(good + "00ff 0001 0000 0001" + "0100 0001 0000 0001"), 2);
        check.due("id 260", known(good + "0104 0001 0000 0001" + "0100 0001 0000 0001"), 2);
        check.due("id 0", known("0000 0001 0000 0001" + good), 0);
        check.due("no fields", known("0100 0000" + good), 0);
        check.due("field 9", known("0100 0001 0009 0001" + good), 0);
        check.due("field 65535", known("0100 0001 ffff 0001" + good), 0);
        check.due("a wrong length", known("0100 0001 0000 0002" + good), 0);
        check.due("a field twice", known("0100 0002 0000 0001 0000 0001" + good), 0);
        check.due("too few bytes", known(good + "0100 0002 0000 0001"), 2);
        check.due("too few bytes by one", known(good + "0100 0001 0000 00"), 2);
        check.due("three bytes more", known(good + "0100 00"), 2);
        check.due("65535 fields", known(good + "0100 ffff 0000 0001"), 2);
        check.due("all fields", known("0100 0009 0008 0004 0007 0004 0006 0004 0005 0008 0004 0004 0003 0001"
            + "0002 0002 0001 0001 0000 0001"), 1);
        check.due("field 9 of no bytes", known("0100 0002 0009 0000 0000 0001" + good), 0);
        // The bytes of the next set do not help: its id and length look like the field bytes.
        FlowExporter y = new FlowExporter();
        put(y, 0, 0, 0, "0002 000c 0100 0002 0000 0001 0005 0008 00000000");
        check.due("the bytes of the set do not suffice", y.knownTemplates(), 0);
        // A template replaces the one of its id; a wrong one leaves it.
        FlowExporter x = new FlowExporter();
        put(x, 0, 0, 0, SOURCE);
        check.due("by the first", put(x, 1, 0, 0, "0100 0006 0102"), 2);
        put(x, 2, 0, 0, "0002 000c 0100 0001 0002 0002");
        check.due("by the second", put(x, 3, 0, 0, "0100 0006 0102"), 1);
        put(x, 4, 0, 0, "0002 000c 0100 0001 0002 0003");
        check.due("by the second still", put(x, 5, 0, 0, "0100 0006 0103"), 1);
        check.due("its key", x.find(0, 0, 0x103, 0), 3);
    }

    private static void dataSets() {
        FlowExporter x = new FlowExporter();
        String template = "0002 0014 0101 0003 0002 0002 0004 0004 0005 0008";
        check.due("a template behind its data", put(x, 0, 0, 0, "0101 0006 0000" + template), 0);
        check.due("undecodable", x.counter(3), 1);
        String record = "0050 ffffffff ffffffffffffffff";
        check.due("as many as fit", put(x, 1, 0, 0, "0101 0026" + record + record + "000000000000"), 2);
        check.due("no fault", x.counter(4), 0);
        check.due("keyCount", x.keyCount(), 1);
        check.due("port", x.key(0, 2), 80);
        check.due("missing parts", x.key(0, 0) + x.key(0, 1) + x.key(0, 3), 0);
        check.due("packets are unsigned", x.raw(0, 0), 2 * 0xFFFFFFFFL);
        check.due("bytes are signed", x.raw(0, 1), -2);
        check.due("less than a record", put(x, 2, 0, 0, "0101 0005 00"), 0);
        check.due("decodable all the same", x.counter(3), 1);
        check.due("other ids", put(x, 3, 0, 0, "0003 0005 00 0104 0005 00 00ff 0005 00 ffff 0005 00"), 0);
        check.due("are ignored", x.counter(3), 1);
        check.due("unknown ids", put(x, 4, 0, 0, "0100 0005 00 0102 0005 00 0103 0004"), 0);
        check.due("each counts", x.counter(3), 4);
        check.due("decoded", x.counter(7), 2);
        check.due("received", x.counter(8), 5);
    }

    private static void duplicates() {
        FlowExporter x = new FlowExporter();
        put(x, 7, 1, 1, "");
        check.due("the same", put(x, 7, 1, 1, SOURCE), 0);
        counters("the same", x, 0, 0, 1, 0, 0, 0, 0, 0, 2);
        check.due("it is ignored", x.knownTemplates(), 0);
        put(x, 8, 1, 1, "");
        counters("another time", x, 0, 1, 1, 0, 0, 0, 0, 0, 3);
        for (int k = 2; k <= 8; k++) {
            put(x, 8, k, 1, "");
        }
        counters("seven more", x, 0, 1, 1, 0, 0, 0, 0, 0, 10);
        put(x, 8, 1, 1, "");
        counters("8 messages ago", x, 0, 1, 2, 0, 0, 0, 0, 0, 11);
        put(x, 8, 9, 1, "");
        put(x, 8, 1, 1, "");
        counters("9 messages ago", x, 0, 2, 2, 0, 0, 0, 0, 0, 13);
        put(x, 8, 9, 1, "");
        counters("a duplicate is none of the 8", x, 0, 2, 3, 0, 0, 0, 0, 0, 14);
        check.due("expected", x.expected(), 10);
    }

    private static void lostAndLate() {
        FlowExporter x = new FlowExporter();
        put(x, 0, 100, 5, "");
        counters("the first one", x, 0, 0);
        check.due("expected", x.expected(), 105);
        put(x, 0, 105, 5, "");
        counters("in order", x, 0, 0);
        put(x, 0, 117, 3, "");
        counters("seven lost", x, 7, 0);
        check.due("expected", x.expected(), 120);
        check.due("a late one is read", put(x, 0, 110, 4, SOURCE + "0100 0005 01"), 1);
        counters("a late one", x, 3, 1);
        check.due("expected stays", x.expected(), 120);
        put(x, 0, 114, 4, "");
        counters("not below 0", x, 0, 2);
        // Around 2^32.
        put(x, 0, -2, 5, "");
        counters("before 0", x, 0, 3);
        FlowExporter y = new FlowExporter();
        put(y, 0, -2, 5, "");
        check.due("expected behind 2^32", y.expected(), 3);
        put(y, 0, 4, 0, "");
        counters("one lost", y, 1, 0);
        FlowExporter z = new FlowExporter();
        put(z, 0, -5, 1, "");
        check.due("expected unsigned", z.expected(), (1L << 32) - 4);
        put(z, 0, -4 + Integer.MAX_VALUE, 0, "");
        counters("the most at once", z, Integer.MAX_VALUE, 0);
        put(z, 1, (int) (z.expected() + 0x80000000L), 9, "");
        counters("2^31 more are late", z, Integer.MAX_VALUE - 9, 1);
        for (int k = 0; k < 3; k++) {
            put(z, 0, (int) (z.expected() + Integer.MAX_VALUE), 0, "");
        }
        counters("more than an int", z, 4L * Integer.MAX_VALUE - 9, 1);
    }

    private static void restarts() {
        FlowExporter x = new FlowExporter();
        put(x, 10, 5, 1, "");
        put(x, 10, 0, 2, "");
        counters("not later: late", x, 0, 1, 0, 0, 0, 0);
        put(x, 11, 0, 3, "");
        counters("later: restarted", x, 0, 1, 0, 0, 0, 1);
        check.due("expected", x.expected(), 3);
        put(x, 12, 1, 1, "");
        counters("not 0: late", x, 0, 2, 0, 0, 0, 1);
        put(x, Integer.MIN_VALUE, 3, 1, "");
        put(x, -1, 0, 1, "");
        counters("times are signed", x, 0, 2, 0, 0, 0, 2);
        put(x, 5, 1, 1, "");
        put(x, -1, 0, 9, "");
        // The sequence number and the time are those of one of the last 8.
        counters("a duplicate first", x, 0, 2, 1, 0, 0, 2);
        put(x, -2, 0, 9, "");
        counters("earlier: late", x, 0, 3, 1, 0, 0, 2);
        put(x, -1, 2, 1, "");
        put(x, 0, 0, 1, "");
        counters("the last one counts, late ones too", x, 0, 3, 1, 0, 0, 3);
    }

    private static void recordsOfTheHeader() {
        FlowExporter x = new FlowExporter();
        put(x, 0, 1, Integer.MAX_VALUE, "");
        check.due("the most records", x.expected(), 1L << 31);
        FlowExporter y = new FlowExporter();
        put(y, 0, 1, Integer.MIN_VALUE, "");
        check.due("2^31 counts as 0", y.expected(), 1);
        put(y, 0, 11, -1, "");
        check.due("2^32 - 1 counts as 0", y.expected(), 11);
        counters("lost", y, 10, 0);
        put(y, 0, 2, -1, "");
        counters("late with 0", y, 10, 1);
        put(y, 0, 3, 4, "");
        counters("late with 4", y, 6, 2);
    }

    private static void lifetime() {
        FlowExporter x = Check.loaded("lifetime 10;");
        x.advance(3);
        put(x, 0, 0, 0, SOURCE);
        check.due("age", x.templateAge(0), 0);
        check.due("not known", x.templateAge(1), -1);
        x.advance(10);
        check.due("age 10", x.templateAge(0), 10);
        check.due("known", x.knownTemplates(), 1);
        check.due("decoded", put(x, 1, 0, 0, "0100 0005 01"), 1);
        x.advance(1);
        check.due("age 11", x.templateAge(0), 11);
        check.due("too old", x.knownTemplates(), 0);
        check.due("not decoded", put(x, 2, 0, 0, "0100 0005 01"), 0);
        check.due("undecodable", x.counter(3), 1);
        put(x, 3, 0, 0, SOURCE);
        check.due("received again", x.templateAge(0), 0);
        check.due("known again", x.knownTemplates(), 1);
        x.advance(11);
        check.due("too old ones are forgotten, too", x.restartCollector(), 1);
        check.due("and not known", x.templateAge(0), -1);
    }

    private static void restartOfTheCollector() {
        FlowExporter x = new FlowExporter();
        check.due("restart of nothing", x.restartCollector(), 0);
        put(x, 5, 10, 1, SOURCE + "0100 0006 0102");
        put(x, 5, 13, 1, "0002 000c 0103 0001 0000 0001");
        check.due("restart", x.restartCollector(), 2);
        check.due("expected", x.expected(), -1);
        check.due("knownTemplates", x.knownTemplates(), 0);
        check.due("keyCount", x.keyCount(), 2);
        counters("the counters stay", x, 2, 0, 0, 0, 0, 0, 0, 2, 2);
        put(x, 5, 10, 1, "");
        counters("no duplicate, not late", x, 2, 0, 0, 0, 0, 0, 0, 2, 3);
        check.due("expected", x.expected(), 11);
    }

    private static void overflow() {
        FlowExporter x = new FlowExporter();
        StringBuilder records = new StringBuilder();
        for (int k = 0; k < 30; k++) {
            records.append(String.format("%02x", k));
        }
        check.due("thirty keys", put(x, 0, 0, 30, SOURCE + "0100 0022" + records), 30);
        check.due("keyCount", x.keyCount(), 24);
        check.due("the last key", x.key(23, 0), 23);
        counters("overflow", x, 0, 0, 0, 0, 0, 0, 6, 30, 1);
        check.due("known ones", put(x, 1, 30, 2, "0100 0007 00 17 18"), 3);
        counters("are added", x, 0, 0, 0, 0, 0, 0, 7, 33, 2);
        x.restartCollector();
        check.due("the keys stay", x.keyCount(), 24);
    }

    private static void wrongArguments() {
        FlowExporter x = new FlowExporter();
        for (int wrong : new int[] {-1, 4, Integer.MAX_VALUE, Integer.MIN_VALUE}) {
            check.dueThrow("templateAge " + wrong, IllegalArgumentException.class, () -> x.templateAge(wrong));
        }
        for (int wrong : new int[] {-1, 9, Integer.MAX_VALUE, Integer.MIN_VALUE}) {
            check.dueThrow("counter " + wrong, IllegalArgumentException.class, () -> x.counter(wrong));
        }
        check.due("templateAge 3", x.templateAge(3), -1);
        check.due("counter 8", x.counter(8), 0);
    }

    private static void lossRate() {
        FlowExporter x = new FlowExporter();
        check.dueThrow("lossRate of nothing", ArithmeticException.class, x::lossRate);
        put(x, 0, 0, 2, SOURCE + "0100 0006 0102");
        check.dueDouble("lossRate 0", x.lossRate(), 0.0);
        put(x, 0, 3, 0, "");
        check.dueDouble("lossRate 1 of 3", x.lossRate(), 1.0 / 3.0);
        FlowExporter y = new FlowExporter();
        put(y, 0, 0, 0, "");
        put(y, 0, 5, 0, "");
        check.dueDouble("lossRate 5 of 5", y.lossRate(), 1.0);
        put(y, 0, 1, 5, "");
        check.dueThrow("lossRate of 0 again", ArithmeticException.class, y::lossRate);
    }
}
