/** The boundary cases of INPUT and ERRORS and of promises 1 to 6, sentence by sentence. */
public final class EdgesOfInputTest {
    private static final Edges edges = new Edges();
    private static final Check check = edges.check;
    private static final Twins twins = edges.twins;
    private static final int BLANKS = 0x20202020;
    private static final String[] FIELDS =
        {"source", "destination", "port", "protocol", "packets", "bytes", "first", "last", "rate"};
    private static final String ALL_FIELDS = String.join(" ", FIELDS);
    /** Each statement with one number, its least and its greatest one. */
    private static final String[] WORDS =
        {"sampling", "budget", "active", "inactive", "refresh", "lifetime", "length", "assume"};
    private static final int[] LEAST = {1, 1, 1, 1, 1, 1, 256, 1};
    private static final int[] MOST = {1024, 1000, 10000, 10000, 1000, 100000, 600, 1024};

    public static void main(String[] args) {
        thePasts();
        buffer();
        tokens();
        statements();
        errors();
        promises();
        edges.finish(1, 2, 3, 4, 5, 6);
    }

    private static void good(String text, int statements) {
        FlowExporter x = new FlowExporter();
        check.due("load of '" + text + "'", Check.load(x, text), statements);
        check.due("errorCode of '" + text + "'", x.errorCode(), 0);
        check.due("errorPosition of '" + text + "'", x.errorPosition(), -1);
    }

    private static void bad(String text, int code, int position) {
        FlowExporter x = new FlowExporter();
        check.due("load of '" + text + "'", Check.load(x, text), -2);
        check.due("errorCode of '" + text + "'", x.errorCode(), code);
        check.due("errorPosition of '" + text + "'", x.errorPosition(), position);
    }

    /** What the refused calls are put to must be what it is called. */
    private static void thePasts() {
        FlowExporter full = Twins.full();
        check.due("full: templates", full.templateCount(), 4);
        check.due("full: flows", full.cacheSize(), 12);
        check.due("full: messages", full.queueLength(), 12);
        check.due("full: dropped", full.dropped() > 0, true);
        check.due("full: keys", full.keyCount(), 24);
        check.due("full: overflow", full.counter(6), 2);
        check.due("full: the last truth", full.truth(23, 200, 65535, 6, 0), 24);
        check.due("full: no truth more", full.truth(24, 200, 65535, 6, 0), 0);
        check.due("full: bytes", full.truncateInput(700), 700);
        check.due("full: they are a message", full.receive(), 668);
        FlowExporter busy = Twins.busy();
        check.due("busy: flows", busy.cacheSize(), 3);
        check.due("busy: messages", busy.queueLength() > 1, true);
        check.due("busy: keys", busy.keyCount() > 1, true);
        check.due("busy: unsent", busy.unsent(), 1);
        check.due("busy: an error", busy.errorCode(), 2);
        check.due("busy: adaptive", busy.setAdaptive(false), true);
        check.due("busy: bytes are a message", busy.receive(), 3);
        check.due("two draw states", Twins.areAlike(Twins.busy(), seeded(Twins.busy(), 8)), false);
        check.due("the same draw state", Twins.areAlike(seeded(Twins.busy(), 8), seeded(Twins.busy(), 8)), true);
    }

    private static FlowExporter seeded(FlowExporter x, int seed) {
        x.setSeed(seed);
        return x;
    }

    // ---- the buffer ----

    private static void buffer() {
        edges.terms("Bytes are collected in an input buffer of at most 700 bytes;", () -> {
            FlowExporter x = new FlowExporter();
            check.due("an empty buffer", x.truncateInput(0), 0);
            check.due("has no byte", x.truncateInput(1), -1);
            for (int k = 1; k <= 35; k++) {
                check.due("append " + k, x.appendInput(BLANKS, BLANKS, BLANKS, BLANKS, BLANKS), 20 * k);
            }
            check.due("append to a full one", x.appendInput(BLANKS, BLANKS, BLANKS, BLANKS, BLANKS), -1);
            // All 700 bytes are read, the last one too.
            String text = " ".repeat(688) + "sampling 99;";
            check.due("load of 700 bytes", Check.load(x, text), 1);
            check.due("their rate", x.rate(), 99);
        });
        edges.terms("load() and receive() read it and empty it, also on an error.", () -> {
            String[] texts = {"", "sampling 5;", "sampling 0;", "$"};
            for (String text : texts) {
                FlowExporter x = new FlowExporter();
                Check.load(x, text);
                check.due("bytes left by the load of '" + text + "'", x.truncateInput(1), -1);
                check.due("the next load of '" + text + "'", x.load(), 0);
            }
            byte[][] messages = {{}, {0}, Check.framed(1, 2, 3, ""), Check.framed(1, 2, 3, "00")};
            for (byte[] message : messages) {
                FlowExporter x = new FlowExporter();
                Check.receive(x, message);
                check.due("bytes left of " + Check.hex(message), x.truncateInput(1), -1);
                x.receive();
                check.due("an empty message then", x.counter(4), message.length == 16 ? 1 : 2);
            }
        });
    }

    // ---- tokens ----

    private static void tokens() {
        edges.terms("Tokens are words (longest runs of the letters a to z, at most 12 letters)", () -> {
            bad("a", 1, 0);
            bad("z", 1, 0);
            bad(" abcdefghijkl 5;", 1, 1);
            bad(" abcdefghijklm 5;", 1, 1);
            bad("template " + "destinationss;", 1, 9);
            bad("drop" + "rate;", 1, 0);
            bad("samplingsampling 5;", 1, 0);
            bad("drop rateport;", 1, 5);
            bad("drop Rate;", 1, 5);
            bad("drop ratE;", 1, 5);
            bad("drop rate`;", 1, 9);
            bad("drop rate{;", 1, 9);
        });
        edges.terms("numbers (longest runs of digits, at most 6 digits)", () -> {
            good("sampling 000001;", 1);
            bad("sampling 0000001;", 1, 9);
            good("lifetime 100000;", 1);
            bad("lifetime 999999;", 2, 9);
            bad("lifetime 1000000;", 1, 9);
            bad("lifetime 0100000;", 1, 9);
            bad("sampling 4294967297;", 1, 9);
            bad("sampling 18446744073709551617;", 1, 9);
            bad("sampling 5/;", 1, 10);
            bad("sampling 5:;", 1, 10);
            bad("sampling /;", 1, 9);
            bad("sampling :;", 1, 9);
            bad("sampling 1 2;", 1, 11);
            FlowExporter x = Check.loaded("sampling 0907;");
            check.due("a number with each edge of the digits", x.rate(), 907);
        });
        edges.terms("and the symbol ;.", () -> {
            good("drop rate;", 1);
            bad("drop rate:", 1, 9);
            bad("drop rate<", 1, 9);
            bad("drop rate,", 1, 9);
            bad("drop rate;;", 1, 10);
            bad(";", 1, 0);
        });
        edges.terms("Spaces and line feeds (bytes 32 and 10) separate tokens and have no other meaning.", () -> {
            for (int sign = 0; sign < 256; sign++) {
                String text = "drop" + (char) sign + "rate;";
                if (sign == 32 || sign == 10) {
                    good(text, 1);
                } else {
                    bad(text, 1, sign >= 'a' && sign <= 'z' ? 0 : 4);
                }
            }
            good("\n \n drop\n\n  rate \n; \n\n", 1);
            good("drop rate;drop port;", 2);
            good("sampling5;template port;use6 0;", 3);
            bad("sam pling 5;", 1, 0);
            bad("sampling 1\n0;", 1, 11);
        });
    }

    // ---- statements ----

    /** The statement with this value; refresh takes a second one. */
    private static String with(int word, int value) {
        return WORDS[word] + " " + value + (WORDS[word].equals("refresh") ? " 30;" : ";");
    }

    private static void statements() {
        edges.terms("The text is a sequence of statements, perhaps empty, in any order:", () -> {
            good("", 0);
            good(" ", 0);
            good("\n", 0);
            String forth = "sampling 3;budget 3;active 3;inactive 3;refresh 3 3;lifetime 3;length 300;assume 3;"
                + "template port bytes;drop bytes;use 3 0;";
            String back = "drop bytes;template port bytes;use 3 0;assume 3;length 300;lifetime 3;refresh 3 3;inactive 3;"
                + "active 3;budget 3;sampling 3;";
            twins.alike("both orders", Check.loaded(forth), Check.loaded(back));
        });
        edges.terms("(1 to 1024; 1 to 1000; 1 to 10000; 1 to 10000; 1 to 1000, 1 to 100000; 1 to 100000; 256 to 600;"
            + " 1 to 1024;", EdgesOfInputTest::ranges);
        edges.terms("without these statements 1, 100, 1000, 100, 20 and 1000, 5000, 512, 1;", EdgesOfInputTest::defaults);
        edges.terms("the last one counts) template", EdgesOfInputTest::lastOneCounts);
        edges.terms("template FIELD { FIELD } ;", () -> {
            bad("template;", 1, 8);
            for (int k = 0; k < 9; k++) {
                FlowExporter x = Check.loaded("template " + FIELDS[k] + ";");
                check.due("a template of " + FIELDS[k], x.templateFields(0), 1 << k);
            }
            FlowExporter x = Check.loaded("template " + ALL_FIELDS + ";");
            check.due("a template of all", x.templateFields(0), 511);
        });
        edges.terms("without any such statement there is one template with all fields in the order of their numbers", () -> {
            FlowExporter x = Check.loaded("drop port;sampling 2;");
            check.due("templateCount", x.templateCount(), 1);
            check.due("templateFields", x.templateFields(0), 511);
            check.due("effectiveFields", x.effectiveFields(0), 511 - 4);
            for (int place = 0; place < 9; place++) {
                check.due("fieldAt " + place, x.fieldAt(0, place), place);
            }
            check.due("fieldAt 9", x.fieldAt(0, 9), -1);
        });
        edges.terms("(0 to 255; the number of a template that stands before)", EdgesOfInputTest::uses);
        edges.terms("the protocol uses this template; the last one counts", () -> {
            twins.alike("twice", Check.loaded("template rate;template port;use 6 0;use 6 1;use 17 1;use 17 0;"),
                Check.loaded("template rate;template port;use 6 1;"));
        });
        edges.terms("the collector does not support this field", () -> {
            StringBuilder all = new StringBuilder();
            for (int k = 0; k < 9; k++) {
                FlowExporter x = Check.loaded("drop " + FIELDS[k] + ";drop " + FIELDS[k] + ";");
                check.due("without " + FIELDS[k], x.effectiveFields(0), 511 - (1 << k));
                all.append("drop ").append(FIELDS[k]).append(';');
            }
            check.due("without any", Check.loaded(all.toString()).effectiveFields(0), 0);
            bad("drop;", 1, 4);
            bad("drop sampling;", 1, 5);
        });
        edges.terms("A text without errors replaces everything: time 0, all counters 0, everything empty, x is 1, the"
            + " exporter is not adaptive.", () -> {
                FlowExporter busy = Twins.busy();
                check.due("load", Check.load(busy, ""), 0);
                twins.alike("a busy one", busy, new FlowExporter());
                FlowExporter full = Twins.full();
                check.due("load", Check.load(full, ""), 0);
                twins.alike("a full one", full, new FlowExporter());
                String text = "sampling 3;template source packets;template rate;use 6 1;drop rate;";
                FlowExporter again = Twins.busy();
                check.due("load", Check.load(again, text), 5);
                twins.alike("another text", again, Check.loaded(text));
                intervalBeginsAnew();
            });
    }

    /** The exports before the load, of this interval and of earlier ones, count no more. */
    private static void intervalBeginsAnew() {
        int[] exports = {1, 2, 3, 4};
        int[] rates = {2, 4, 4, 8};
        for (int k = 0; k < exports.length; k++) {
            FlowExporter x = Twins.busy();
            check.due("exports before", x.sent() > 0 && x.now() > 100, true);
            Check.load(x, "sampling 4;budget 3;");
            x.setAdaptive(true);
            for (int flows = 0; flows < exports[k]; flows++) {
                x.observeMany(1, 1, 1, 1, 1, 200);
                x.flush();
            }
            x.advance(100);
            check.due("rate after " + exports[k], x.rate(), rates[k]);
        }
    }

    private static void ranges() {
        for (int word = 0; word < WORDS.length; word++) {
            int at = WORDS[word].length() + 1;
            good(with(word, LEAST[word]), 1);
            good(with(word, MOST[word]), 1);
            bad(with(word, LEAST[word] - 1), 2, at);
            bad(with(word, MOST[word] + 1), 2, at);
            bad(with(word, 0), 2, at);
            bad(with(word, 999999), 2, at);
        }
        good("refresh 1 1;", 1);
        good("refresh 1 100000;", 1);
        bad("refresh 1 0;", 2, 10);
        bad("refresh 1 100001;", 2, 10);
        bad("refresh 0 0;", 2, 8);
        check.due("the least rate", Check.loaded("sampling 1;").rate(), 1);
        check.due("the greatest rate", Check.loaded("sampling 1024;").rate(), 1024);
    }

    private static void defaults() {
        String usual = "sampling 1;budget 100;active 1000;inactive 100;refresh 20 1000;lifetime 5000;length 512;assume 1;";
        twins.alike("the usual values", new FlowExporter(), Check.loaded(usual));
        // One value alone leaves the others as they are without it.
        String[] parts = usual.split(";");
        for (int k = 0; k < parts.length; k++) {
            FlowExporter x = Check.loaded(with(k, LEAST[k]));
            String all = usual.replace(parts[k] + ";", with(k, LEAST[k]));
            twins.alike(all, x, Check.loaded(all));
        }
    }

    private static void lastOneCounts() {
        for (int word = 0; word < WORDS.length; word++) {
            String least = with(word, LEAST[word]);
            String most = with(word, MOST[word]);
            twins.alike(least + most, Check.loaded(least + most), Check.loaded(most));
            twins.alike(most + least, Check.loaded(most + least), Check.loaded(least));
        }
        twins.alike("refresh", Check.loaded("refresh 2 3;drop port;refresh 4 500;"),
            Check.loaded("drop port;refresh 4 500;"));
    }

    private static void uses() {
        String one = "template port;";
        good(one + "use 0 0;use 255 0;", 3);
        bad(one + "use 256 0;", 2, 18);
        bad(one + "use 999999 0;", 2, 18);
        bad(one + "use 6 1;", 2, 20);
        bad("use 6 0;", 2, 6);
        bad("use 6 0;" + one, 2, 6);
        good(one + one + one + one + "use 6 3;", 5);
        bad(one + one + one + one + "use 6 4;", 2, 62);
        bad(one + one + one + "use 6 3;" + one, 2, 48);
        good(one + "use 6 0;" + one + "use 6 1;", 4);
        // Protocols 0 and 255 use their template, those beside them do not.
        FlowExporter x = Check.loaded("template source;template port;use 0 1;use 255 1;");
        int[] protocols = {0, 1, 254, 255};
        int[] lengths = {2, 1, 1, 2};
        for (int k = 0; k < protocols.length; k++) {
            x.observe(1, 1, 1, protocols[k], 1);
            x.flush();
            int start = k == 0 ? 36 : 16;
            check.due("record of protocol " + protocols[k], x.messageLength(k) - start - 4, lengths[k]);
        }
    }

    // ---- errors ----

    private static void errors() {
        edges.terms("The first error is reported, from left to right, with a code and a position", () -> {
            bad("sampling 0 $", 2, 9);
            bad("sampling $ 0", 1, 9);
            bad("template port port 0;", 3, 14);
            bad("template port 0 port;", 1, 14);
            bad("refresh 1001 100001;", 2, 8);
            bad("template port;use 256 1;", 2, 18);
            bad("$ sampling 0;", 1, 0);
            bad("sampling 5;budget 1001;template port port;", 2, 18);
        });
        edges.terms("(the index of the first byte of the token concerned, or the length of the text if it ends too"
            + " early)", () -> {
                String[] whole = {"sampling 5 ;", "refresh 5 5 ;", "template port rate ;", "drop rate ;"};
                for (String text : whole) {
                    for (int at = text.indexOf(' '); at >= 0; at = text.indexOf(' ', at + 1)) {
                        String early = text.substring(0, at);
                        bad(early, 1, at);
                        bad(early + " \n ", 1, at + 3);
                    }
                }
                bad("template port;use", 1, 17);
                bad("template port;use 6", 1, 19);
                bad("template port;use 6 0", 1, 21);
                bad("sampling 5;budget", 1, 17);
                bad("\n\n  samplin 5;", 1, 4);
                bad("sampling \n 1025;", 2, 11);
                bad("template port\n\n port;", 3, 16);
                bad("sampling" + " ".repeat(692), 1, 700);
                bad(" ".repeat(699) + "$", 1, 699);
            });
        edges.terms("1 syntax: something that is not a token (also a word or number that is too long), or a token that"
            + " is not allowed at its place (also a word that is not a field where a field is expected);", () -> {
                bad("$", 1, 0);
                bad("drop " + (char) 255 + ";", 1, 5);
                bad("drop rate " + (char) 0 + ";", 1, 10);
                bad("abcdefghijklm", 1, 0);
                bad("sampling 1000000;", 1, 9);
                bad("5;", 1, 0);
                bad("port;", 1, 0);
                bad("sampling port;", 1, 9);
                bad("sampling ;", 1, 9);
                bad("sampling 5 port;", 1, 11);
                bad("sampling 5 5;", 1, 11);
                bad("refresh 5;", 1, 9);
                bad("refresh 5 5 5;", 1, 12);
                bad("template sampling;", 1, 9);
                bad("template port 5;", 1, 14);
                bad("template " + ALL_FIELDS + " template;", 1, 10 + ALL_FIELDS.length());
                bad("drop drop;", 1, 5);
                bad("drop 8;", 1, 5);
                bad("drop rate port;", 1, 10);
                bad("template port;use port 0;", 1, 18);
                bad("template port;use 6 port;", 1, 20);
                bad("template port;use 6;", 1, 19);
                bad("template port;use 6 0 0;", 1, 22);
            });
        edges.terms("2 range: a number outside its range (also a TEMPLATE that does not stand before);", () -> {
            bad("length 255;", 2, 7);
            bad("length 601;", 2, 7);
            bad("template port;use 6 999999;", 2, 20);
            bad("template port;template port;use 6 2;", 2, 34);
            bad("use 0 0;", 2, 6);
        });
        edges.terms("3 duplicate: a field that its template has already;", () -> {
            bad("template port port;", 3, 14);
            bad("template " + ALL_FIELDS + " rate;", 3, 10 + ALL_FIELDS.length());
            bad("template " + ALL_FIELDS + " source;", 3, 10 + ALL_FIELDS.length());
            bad("template port;template rate rate;", 3, 28);
            // Another template may have it.
            good("template port;template port;", 2);
        });
        edges.terms("4 limit: the word template of a fifth template.", () -> {
            String four = "template port;".repeat(4);
            good(four, 4);
            bad(four + "template port;", 4, 56);
            bad(four + " template", 4, 57);
            bad(four + "template $", 4, 56);
            bad(four + "drop rate;template rate rate;", 4, 66);
            bad("template port;".repeat(3) + "template;", 1, 50);
        });
    }

    // ---- promises 1 to 6 ----

    private static void promises() {
        edges.promise(1, "Creates an exporter and a collector as by an empty configuration.", () -> {
            FlowExporter x = new FlowExporter();
            check.due("load of nothing", x.load(), 0);
            twins.alike("a new one", new FlowExporter(), x);
        });
        edges.promise(2, "Appends 20 bytes to the input buffer: the four bytes of each argument, most significant byte"
            + " first.", () -> {
                FlowExporter x = new FlowExporter();
                check.due("append", x.appendInput(0x000a0014, 0x80000000, 0xfffffffe, 1, 0x00ff0004), 20);
                check.due("receive", x.receive(), 0);
                check.due("a good message", x.counter(4), 0);
                check.due("its sequence number", x.expected(), (1L << 32) - 1);
                x.appendInput(0x000a0014, 0x80000000, 0xfffffffe, 1, 0x00ff0004);
                x.receive();
                check.due("its time is the same", x.counter(2), 1);
            });
        edges.promise(2, "Returns the new length of the buffer; NONE if it would exceed 700 bytes (then nothing is"
            + " appended).", () -> {
                for (int length = 0; length <= 700; length++) {
                    FlowExporter x = Twins.full();
                    x.truncateInput(length);
                    check.due("append to " + length, x.appendInput(-1, -1, -1, -1, -1), length <= 680 ? length + 20 : -1);
                }
                int[] lengths = {681, 690, 699, 700};
                for (int length : lengths) {
                    twins.refusedAfter(() -> {
                        FlowExporter x = Twins.full();
                        x.truncateInput(length);
                        return x;
                    }, "append to " + length, -1, x -> x.appendInput(-1, -1, -1, -1, -1));
                }
            });
        edges.promise(3, "- `length`: 0 to the current length", () -> {
            FlowExporter x = Twins.full();
            int[] lengths = {700, 699, 699, 20, 1, 0, 0};
            for (int length : lengths) {
                check.due("truncate to " + length, x.truncateInput(length), length);
                check.due("one more than " + length, x.truncateInput(length + 1), -1);
            }
            // The first bytes stay, and the next ones are appended behind them.
            FlowExporter y = new FlowExporter();
            Check.put(y, "sampling 7;drop port;drop rate;".getBytes());
            y.truncateInput(10);
            y.appendInput(0x33313b20, BLANKS, BLANKS, BLANKS, BLANKS);
            check.due("load", y.load(), 1);
            check.due("rate", y.rate(), 731);
        });
        edges.promise(3, "Returns the new length; NONE if length is out of range.", () -> {
            int[] wrong = {-1, 701, Integer.MAX_VALUE, Integer.MIN_VALUE};
            for (int length : wrong) {
                twins.refused("truncate to " + length, -1, x -> x.truncateInput(length));
            }
            twins.refusedAfter(FlowExporter::new, "truncate an empty one to 1", -1, x -> x.truncateInput(1));
            twins.refusedAfter(Twins::busy, "truncate 35 to 36", -1, x -> x.truncateInput(36));
        });
        edges.promise(4, "Returns the number of statements; TEXT_ERROR if the text has an error (then only the buffer"
            + " and the error change).", () -> {
                good("", 0);
                good("drop rate;", 1);
                // As many as the buffer can hold.
                good("template port;" + "use0 0;".repeat(98), 99);
                String[] wrong = {"$", "sampling 0;", "sampling 9;budget 9;active 9;inactive 9;refresh 9 9;lifetime 9;"
                    + "length 300;assume 9;template port;use 6 0;drop rate;drop", "template port port;",
                    "template port;".repeat(4) + "template"};
                for (String text : wrong) {
                    for (int past = 0; past < 2; past++) {
                        FlowExporter x = past == 0 ? Twins.busy() : Twins.full();
                        FlowExporter y = past == 0 ? Twins.busy() : Twins.full();
                        check.due("load of '" + text + "'", Check.load(x, text), -2);
                        y.truncateInput(0);
                        twins.alikeButForTheError("after '" + text + "'", x, y);
                    }
                }
            });
        edges.promise(5, "Returns 1 to 4; 0 if it had no error, or if there was none.", () -> errorOfTheLastLoad(true));
        edges.promise(6, "Returns the position; NONE if it had no error, or if there was none.",
            () -> errorOfTheLastLoad(false));
    }

    private static void errorOfTheLastLoad(boolean code) {
        String[] texts = {"$", "", "sampling 0;", "sampling 1;", "template port port;", "", "template port;".repeat(4)
            + "template", "sampling" + " ".repeat(692), " "};
        int[] codes = {1, 0, 2, 0, 3, 0, 4, 1, 0};
        int[] positions = {0, -1, 9, -1, 14, -1, 56, 700, -1};
        FlowExporter x = new FlowExporter();
        check.due("before any load", code ? x.errorCode() : x.errorPosition(), code ? 0 : -1);
        for (int k = 0; k < texts.length; k++) {
            Check.load(x, texts[k]);
            check.due("after '" + texts[k] + "'", code ? x.errorCode() : x.errorPosition(), code ? codes[k] : positions[k]);
            // What is not a load leaves it alone.
            x.receive();
            x.advance(1);
            x.restartExporter();
            x.restartCollector();
            check.due("then", code ? x.errorCode() : x.errorPosition(), code ? codes[k] : positions[k]);
        }
    }
}
