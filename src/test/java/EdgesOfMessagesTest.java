/** The boundary cases of FIELDS, TEMPLATES and MESSAGES and of promises 19 to 26, 32 to 36 and 39 to 41. */
public final class EdgesOfMessagesTest {
    private static final Edges edges = new Edges();
    private static final Check check = edges.check;
    private static final Twins twins = edges.twins;
    private static final Class<?> ARGUMENT = IllegalArgumentException.class;
    private static final Class<?> INDEX = IndexOutOfBoundsException.class;
    private static final String[] FIELDS =
        {"source", "destination", "port", "protocol", "packets", "bytes", "first", "last", "rate"};
    private static final int[] LENGTHS = {1, 1, 2, 1, 4, 8, 4, 4, 4};
    private static final String ALL_FIELDS = String.join(" ", FIELDS);
    private static final int[] NO_TEMPLATE = {-1, 4, Integer.MAX_VALUE, Integer.MIN_VALUE};
    private static final int[] NO_MESSAGE = {-1, 12, 13, Integer.MAX_VALUE, Integer.MIN_VALUE};

    public static void main(String[] args) {
        fields();
        templates();
        header();
        dueTemplates();
        sets();
        lengths();
        queue();
        templateCalls();
        support();
        queueReading();
        queueCalls();
        edges.finish(19, 20, 21, 22, 23, 24, 25, 26, 32, 33, 34, 35, 36, 39, 40, 41);
    }

    /** One flow, one message. */
    private static void one(FlowExporter x) {
        x.observe(1, 0, 0, 0, 1);
        x.flush();
    }

    private static String hex(FlowExporter x, int message) {
        return Check.hex(Check.message(x, message));
    }

    private static int number(FlowExporter x, int message, int place, int bytes) {
        int number = 0;
        for (int k = 0; k < bytes; k++) {
            number = number << 8 | x.messageByte(message, place + k);
        }
        return number;
    }

    // ---- fields and templates ----

    private static void fields() {
        edges.terms("There are nine fields, with numbers, names and lengths in bytes: 0 source (1), 1 destination (1),"
            + " 2 port (2), 3 protocol (1), 4 packets (4), 5 bytes (8), 6 first (4), 7 last (4), 8 rate (4).", () -> {
                String[] least = {"00", "00", "0000", "00", "00000001", "0000000000000001", "00000000", "00000000",
                    "3f800000"};
                String[] most = {"ff", "ff", "ffff", "ff", "000000c8", String.format("%016x", 200 * 65535), "000186a0",
                    "000186a0", "3f800000"};
                for (int k = 0; k < 9; k++) {
                    FlowExporter x = Check.loaded("template " + FIELDS[k] + ";");
                    check.due("number of " + FIELDS[k], x.fieldAt(0, 0), k);
                    check.due("length of " + FIELDS[k], x.recordLength(0), LENGTHS[k]);
                    x.observe(0, 0, 0, 0, 1);
                    x.flush();
                    String template = String.format("0002000c01000001%04x%04x", k, LENGTHS[k]);
                    String set = String.format("0100%04x", 4 + LENGTHS[k]);
                    check.dueObject("the least " + FIELDS[k], hex(x, 0).substring(32), template + set + least[k]);
                    for (int ticks = 0; ticks < 100; ticks++) {
                        x.advance(1000);
                    }
                    x.observeMany(255, 255, 65535, 255, 65535, 200);
                    x.flush();
                    check.dueObject("the most " + FIELDS[k], hex(x, 1).substring(32), template + set + most[k]);
                }
            });
        edges.terms("The collector supports all fields, or fewer.", () -> {
            FlowExporter x = new FlowExporter();
            check.due("all", x.effectiveFields(0), 511);
            for (int k = 8; k >= 0; k--) {
                x.setSupport(k, false);
                check.due("fewer by " + k, x.effectiveFields(0), (1 << k) - 1);
            }
            check.due("no record", x.recordLength(0), 0);
            one(x);
            check.due("no message", x.queueLength(), 0);
            check.due("unsent", x.unsent(), 1);
        });
    }

    private static void templates() {
        edges.terms("There are 1 to 4 templates, numbered from 0; template k has the id 256 + k.", () -> {
            check.due("without a text", new FlowExporter().templateCount(), 1);
            FlowExporter x = Check.loaded("template source;template destination;template port;template protocol;"
                + "use 1 1;use 2 2;use 3 3;");
            check.due("four", x.templateCount(), 4);
            for (int k = 0; k < 4; k++) {
                check.due("template " + k, x.templateFields(k), 1 << k);
                x.observe(0, 0, 0, k, 1);
            }
            x.flush();
            check.dueObject("their ids", hex(x, 0).substring(32), ("0002 0024 0100 0001 0000 0001 0101 0001 0001 0001"
                + "0102 0001 0002 0002 0103 0001 0003 0001 0100 0005 00 0101 0005 00 0102 0006 0000 0103 0005 03")
                .replace(" ", ""));
        });
        edges.terms("Its effective fields are those of them that the collector supports, in the same order.", () -> {
            FlowExporter x = Check.loaded("template rate port last protocol;drop last;drop bytes;");
            check.due("set", x.effectiveFields(0), 256 + 4 + 8);
            x.observe(1, 2, 3, 4, 5);
            x.flush();
            check.dueObject("order", hex(x, 0).substring(32),
                ("0002 0014 0100 0003 0008 0004 0002 0002 0003 0001 0100 000b 3f800000 0003 04").replace(" ", ""));
            x.setSupport(7, true);
            x.setSupport(8, false);
            x.observe(1, 2, 3, 4, 5);
            x.flush();
            check.dueObject("order then", hex(x, 1).substring(32),
                ("0002 0014 0100 0003 0002 0002 0007 0004 0003 0001 0100 000b 0003 00000000 04").replace(" ", ""));
        });
        edges.terms("Its record length is the sum of their lengths.", () -> {
            FlowExporter x = new FlowExporter();
            check.due("of all", x.recordLength(0), 29);
            int length = 29;
            for (int k = 0; k < 9; k++) {
                x.setSupport(k, false);
                length -= LENGTHS[k];
                check.due("without 0 to " + k, x.recordLength(0), length);
            }
            check.due("of none", x.recordLength(0), 0);
        });
        edges.terms("Each protocol uses a template, template 0 if nothing else is configured.", () -> {
            FlowExporter x = Check.loaded("template source;template port;use 17 1;");
            int[] protocols = {0, 16, 18, 255};
            for (int k = 0; k < protocols.length; k++) {
                x.observe(9, 9, 9, protocols[k], 9);
                x.flush();
                check.due("set of " + protocols[k], number(x, k, k == 0 ? 36 : 16, 2), 256);
            }
            x.observe(9, 9, 9, 17, 9);
            x.flush();
            check.due("set of 17", number(x, 4, 16, 2), 257);
        });
    }

    // ---- messages ----

    private static void header() {
        edges.terms("A message has a header of 16 bytes: the number 10 (2 bytes), its length in bytes (2), the present"
            + " time (4), its sequence number (4), and the number of its records (4); then sets follow.", () -> {
                FlowExporter x = Check.loaded("template source;");
                one(x);
                check.dueObject("at time 0", hex(x, 0), "000a00210000000000000000000000010002000c0100000100000001"
                    + "0100000501");
                for (int k = 0; k < 70; k++) {
                    x.advance(1000);
                }
                for (int k = 0; k < 12; k++) {
                    x.observe(k, 0, 0, 0, 1);
                }
                x.flush();
                check.dueObject("at time 70000", hex(x, 1).substring(0, 32), "000a002c" + "00011170" + "00000001"
                    + "0000000c");
            });
        edges.terms("The sequence number is the number of records that have been sent in earlier messages since the"
            + " exporter started (modulo 2^32).", () -> {
                FlowExporter x = Check.loaded("template source;refresh 1000 100000;");
                int sent = 0;
                for (int k = 0; k < 60; k++) {
                    check.due("sequence " + k, x.sequence(), sent);
                    for (int flow = 0; flow <= k % 12; flow++) {
                        x.observe(flow, 0, 0, 0, 1);
                    }
                    x.flush();
                    check.due("message " + k, number(x, 0, 8, 4), sent);
                    x.lose(0);
                    sent += k % 12 + 1;
                }
                check.due("more than a byte", sent, 390);
                x.restartExporter();
                one(x);
                check.due("after a restart", number(x, 0, 8, 4), 0);
            });
    }

    private static void dueTemplates() {
        edges.terms("A template is due if it has effective fields and has not been sent since the exporter started, since"
            + " its effective fields changed, or since templates were requested,", () -> {
                FlowExporter x = Check.loaded("template source port;template rate;use 9 1;");
                due("at first", x, true, true);
                one(x);
                due("sent, both of them", x, false, false);
                x.setSupport(5, false);
                due("a field of neither", x, false, false);
                x.setSupport(2, true);
                due("no change", x, false, false);
                x.setSupport(2, false);
                due("a change of one", x, true, false);
                one(x);
                due("sent", x, false, false);
                x.setSupport(2, true);
                x.setSupport(2, false);
                due("changed, and changed back", x, true, false);
                one(x);
                x.requestTemplates();
                due("requested", x, true, true);
                one(x);
                x.restartExporter();
                due("restarted", x, true, true);
                one(x);
                x.setSupport(8, false);
                due("without effective fields", x, false, false);
                x.requestTemplates();
                due("requested without effective fields", x, true, false);
                one(x);
                for (int k = 0; k < 2; k++) {
                    x.advance(1000);
                }
                due("without effective fields, long ago", x, true, false);
                x.setSupport(8, true);
                due("with them again", x, true, true);
            });
        edges.terms("or if at least REFRESH messages have been sent after the message in which it was sent last,", () -> {
            int[] limits = {1, 2, 20, 200};
            for (int limit : limits) {
                FlowExporter x = Check.loaded("refresh " + limit + " 100000;");
                for (int round = 0; round < 2; round++) {
                    one(x);
                    check.due("with the template", x.messageLength(0), 93);
                    x.lose(0);
                    for (int k = 0; k < limit; k++) {
                        check.due(k + " after it, of " + limit, x.isDue(0), false);
                        one(x);
                        check.due("without the template", x.messageLength(0), 49);
                        x.lose(0);
                    }
                    check.due(limit + " after it", x.isDue(0), true);
                }
            }
            // Messages of one operation count each: the template of the first one is due again for the third.
            FlowExporter y = Check.loaded("refresh 1 100000;length 256;template " + ALL_FIELDS + ";template "
                + ALL_FIELDS + ";use 1 1;");
            for (int k = 0; k < 12; k++) {
                y.observe(k, 0, 0, k % 2, 1);
            }
            y.flush();
            check.due("three messages", y.queueLength(), 3);
            int[] ids = {2, 256, 2};
            for (int k = 0; k < 3; k++) {
                check.due("first set of message " + k, number(y, k, 16, 2), ids[k]);
            }
        });
        edges.terms("or that message was sent at least REFRESH TICKS ticks ago.", () -> {
            int[] limits = {1, 10, 1000, 100000};
            for (int limit : limits) {
                FlowExporter x = Check.loaded("refresh 1000 " + limit + ";");
                x.advance(7);
                one(x);
                check.due("at once", x.isDue(0), false);
                for (int left = limit - 1; left > 0; left -= 1000) {
                    x.advance(Math.min(left, 1000));
                }
                check.due("before " + limit, x.isDue(0), false);
                x.advance(1);
                check.due("at " + limit, x.isDue(0), true);
                one(x);
                check.due("sent again", x.messageLength(1), 93);
                check.due("not due then", x.isDue(0), false);
            }
        });
        edges.terms("At the beginning of a message, if some templates are due, a template set with all of them is"
            + " written:", () -> {
                FlowExporter x = Check.loaded(("template " + ALL_FIELDS + ";").repeat(4));
                one(x);
                check.due("the longest set", number(x, 0, 18, 2), 4 + 4 * 40);
                check.due("four templates of nine fields", x.messageLength(0), 16 + 164 + 4 + 29);
                for (int k = 0; k < 4; k++) {
                    check.due("by number, " + k, number(x, 0, 20 + 40 * k, 4), (256 + k) << 16 | 9);
                }
                one(x);
                check.due("no set if none is due", number(x, 1, 16, 2), 256);
                check.due("its length", x.messageLength(1), 16 + 4 + 29);
                FlowExporter y = Check.loaded("template source;template port;template rate;drop port;");
                one(y);
                check.dueObject("those with effective fields", hex(y, 0).substring(32, 72),
                    "0002" + "0014" + "0100000100000001" + "0102000100080004");
            });
    }

    private static void due(String name, FlowExporter x, boolean first, boolean second) {
        check.due(name + ", template 0", x.isDue(0), first);
        check.due(name + ", template 1", x.isDue(1), second);
    }

    private static void sets() {
        edges.terms("a record is written into the current data set if its template is that of the record before it in"
            + " this message; otherwise a new data set begins:", () -> {
                FlowExporter x = Check.loaded("template source;template destination;use 1 1;use 3 1;");
                int[] protocols = {0, 2, 1, 3, 0, 1};
                for (int k = 0; k < protocols.length; k++) {
                    x.observe(k, k, 0, protocols[k], 1);
                }
                x.flush();
                check.dueObject("sets", hex(x, 0).substring(72), ("0100 0006 00 01 0101 0006 02 03 0100 0005 04"
                    + "0101 0005 05").replace(" ", ""));
                // A new message begins a new set, though the template is the same.
                FlowExporter y = Check.loaded("length 256;");
                for (int k = 0; k < 12; k++) {
                    y.observe(k, 0, 0, 0, 1);
                }
                y.flush();
                check.due("a set in the second message", number(y, 1, 16, 2), 256);
                check.due("its length", number(y, 1, 18, 2), 4 + 29 * 6);
            });
    }

    private static void lengths() {
        edges.terms("When the next record (with the 4 bytes of a new set if it needs one) would make the message longer"
            + " than LENGTH bytes, the message ends, and the next one begins.", () -> {
                for (int length = 256; length <= 420; length++) {
                    // 16 + 44 + 4 + 29 n bytes in one set.
                    FlowExporter x = Check.loaded("length " + length + ";");
                    for (int k = 0; k < 12; k++) {
                        x.observe(k, 0, 0, 0, 1);
                    }
                    x.flush();
                    int fit = Math.min(12, (length - 64) / 29);
                    check.due("one set, length " + length, x.messageLength(0), 64 + 29 * fit);
                    check.due("messages of length " + length, x.queueLength(), fit == 12 ? 1 : 2);
                }
                for (int templates = 2; templates <= 4; templates += 2) {
                    for (int length = 256; length <= 600; length++) {
                        setsOfOne(templates, length);
                    }
                }
                // Exactly LENGTH, and one byte more.
                FlowExporter exact = Check.loaded("length 296;");
                FlowExporter over = Check.loaded("length 295;");
                for (int k = 0; k < 8; k++) {
                    exact.observe(k, 0, 0, 0, 1);
                    over.observe(k, 0, 0, 0, 1);
                }
                exact.flush();
                over.flush();
                check.due("exactly 296", exact.messageLength(0), 296);
                check.due("one message", exact.queueLength(), 1);
                check.due("296 are more than 295", over.messageLength(0), 267);
                check.due("two messages", over.queueLength(), 2);
                check.due("the second one's records", number(over, 1, 12, 4), 1);
            });
    }

    /** Sets of one record; with four templates the message of all 12 has 576 bytes, and none can be longer. */
    private static void setsOfOne(int templates, int length) {
        FlowExporter x = Check.loaded(("template " + ALL_FIELDS + ";").repeat(templates) + "use 1 1;length " + length + ";");
        for (int k = 0; k < 12; k++) {
            x.observe(k, 0, 0, k % 2, 1);
        }
        x.flush();
        int start = 16 + 4 + 40 * templates;
        int fit = Math.min(12, (length - start) / 33);
        String name = templates + " templates, length " + length;
        check.due(name, x.messageLength(0), start + 33 * fit);
        check.due(name + ", records", number(x, 0, 12, 4), fit);
        check.due(name + ", the last source", x.messageByte(0, start + 33 * fit - 29), fit - 1);
        int rest = Math.min(12 - fit, (length - 16) / 33);
        check.due(name + ", the rest", fit == 12 ? 0 : number(x, 1, 12, 4), rest);
    }

    private static void queue() {
        edges.terms("A message that is sent goes to the end of the queue, which has at most 12 messages; if it is full,"
            + " the message is dropped (it counts as sent all the same, with its records and templates).", () -> {
                FlowExporter x = Check.loaded("refresh 1000 100000;");
                for (int k = 0; k < 12; k++) {
                    one(x);
                    check.due("at the end", number(x, k, 8, 4), k);
                    check.due("none dropped", x.dropped(), 0);
                }
                String before = State.of(x).replaceAll("(?m)^counts.*\n", "");
                x.requestTemplates();
                check.due("due", x.isDue(0), true);
                one(x);
                check.due("dropped", x.dropped(), 1);
                check.due("sent", x.sent(), 13);
                check.due("sequence", x.sequence(), 13);
                check.dueObject("the rest is as before", State.of(x).replaceAll("(?m)^counts.*\n", ""), before);
                x.lose(0);
                one(x);
                check.due("room again", x.queueLength(), 12);
                check.due("the one that was dropped is missing", number(x, 11, 8, 4), 13);
                check.due("its template counted as sent", x.messageLength(11), 49);
                // A dropped message counts for REFRESH, too.
                FlowExporter y = Check.loaded("refresh 14 100000;");
                for (int k = 0; k < 14; k++) {
                    one(y);
                }
                check.due("13 after it", y.isDue(0), false);
                one(y);
                check.due("14 after it", y.isDue(0), true);
                check.due("dropped", y.dropped(), 3);
                // Of two messages of one operation the first one still has room.
                FlowExporter z = Check.loaded("length 256;");
                for (int k = 0; k < 11; k++) {
                    one(z);
                }
                for (int k = 0; k < 12; k++) {
                    z.observe(k, 0, 0, 0, 1);
                }
                z.flush();
                check.due("one goes in", z.queueLength(), 12);
                check.due("one is dropped", z.dropped(), 1);
                check.due("all count as sent", z.sent(), 23);
            });
        edges.promise(32, "Returns the number of messages that were dropped because the queue was full.", () -> {
            FlowExporter x = new FlowExporter();
            for (int k = 1; k <= 20; k++) {
                one(x);
                check.due("after " + k, x.dropped(), Math.max(0, k - 12));
            }
            x.lose(0);
            x.duplicate(0);
            x.duplicate(0);
            check.due("a copy that finds no room is none", x.dropped(), 8);
        });
        edges.promise(33, "Returns the number, 0 to 2^32 - 1.", () -> {
            FlowExporter x = new FlowExporter();
            check.due("at first", x.sequence(), 0);
            for (int k = 0; k < 12; k++) {
                x.observe(k, 0, 0, 0, 1);
            }
            check.due("before they are sent", x.sequence(), 0);
            x.flush();
            check.due("then", x.sequence(), 12);
            x.restartExporter();
            check.due("restarted", x.sequence(), 0);
        });
        edges.promise(34, "Returns 0 to 12.", () -> {
            FlowExporter x = new FlowExporter();
            for (int k = 0; k < 15; k++) {
                check.due("after " + k, x.queueLength(), Math.min(k, 12));
                one(x);
            }
            x.deliverAll();
            check.due("empty again", x.queueLength(), 0);
        });
    }

    // ---- promises 19 to 23 and 26 ----

    private static void noSuchTemplate(int promise, java.util.function.BiFunction<FlowExporter, Integer, Object> call) {
        edges.promise(promise, "- `template`: number of a template", () -> {
            FlowExporter x = Twins.full();
            for (int k = 0; k < 4; k++) {
                int template = k;
                Object got = State.answer(() -> call.apply(x, template));
                check.due("template " + k + " is one", got instanceof Class, false);
            }
        });
        edges.promise(promise, "Throws `IndexOutOfBoundsException` if there is no such template", () -> {
            for (int template : NO_TEMPLATE) {
                twins.refused("template " + template, INDEX, x -> call.apply(x, template));
            }
            twins.refusedAfter(FlowExporter::new, "template 1 of one", INDEX, x -> call.apply(x, 1));
            twins.refusedAfter(Twins::busy, "template 3 of three", INDEX, x -> call.apply(x, 3));
            twins.refusedAfter(Twins::full, "template 4 of four", INDEX, x -> call.apply(x, 4));
        });
    }

    private static void templateCalls() {
        edges.promise(19, "Returns 1 to 4.", () -> {
            check.due("without a text", new FlowExporter().templateCount(), 1);
            for (int k = 1; k <= 4; k++) {
                check.due("with " + k, Check.loaded("template port;".repeat(k)).templateCount(), k);
            }
        });
        noSuchTemplate(20, FlowExporter::templateFields);
        noSuchTemplate(21, FlowExporter::effectiveFields);
        noSuchTemplate(22, (x, template) -> x.fieldAt(template, 0));
        noSuchTemplate(23, FlowExporter::recordLength);
        noSuchTemplate(26, FlowExporter::isDue);
        edges.promise(20, "Returns the set of fields.", () -> {
            check.due("one", Check.loaded("template rate;drop rate;").templateFields(0), 256);
            check.due("all", Check.loaded("template " + ALL_FIELDS + ";drop rate;").templateFields(0), 511);
        });
        edges.promise(21, "Returns the set of fields.", () -> {
            check.due("none", Check.loaded("template rate;drop rate;").effectiveFields(0), 0);
            check.due("one", Check.loaded("template rate;").effectiveFields(0), 256);
            check.due("all", new FlowExporter().effectiveFields(0), 511);
        });
        edges.promise(22, "- `place`: from 0", () -> {
            FlowExporter x = Check.loaded("template rate source;template " + ALL_FIELDS + ";template port;");
            check.due("the first", x.fieldAt(0, 0), 8);
            check.due("the last", x.fieldAt(0, 1), 0);
            check.due("the first of nine", x.fieldAt(1, 0), 0);
            check.due("the last of nine", x.fieldAt(1, 8), 8);
            check.due("the only one", x.fieldAt(2, 0), 2);
            x.setSupport(8, false);
            check.due("one that is not supported", x.fieldAt(0, 0), 8);
        });
        edges.promise(22, "Returns the field; NONE if the template is not that long.", () -> {
            int[] wrong = {9, 10, Integer.MAX_VALUE, -1, Integer.MIN_VALUE};
            for (int place : wrong) {
                twins.refused("place " + place, -1, x -> x.fieldAt(0, place));
            }
            twins.refusedAfter(Twins::busy, "place 7 of seven", -1, x -> x.fieldAt(0, 7));
            twins.refusedAfter(Twins::busy, "place 2 of two", -1, x -> x.fieldAt(1, 2));
            twins.refusedAfter(Twins::busy, "place 1 of one", -1, x -> x.fieldAt(2, 1));
            twins.refused("the template first", INDEX, x -> x.fieldAt(4, -1));
        });
        edges.promise(23, "Returns the number of bytes.", () -> {
            check.due("the least", Check.loaded("template rate;drop rate;").recordLength(0), 0);
            check.due("the most", new FlowExporter().recordLength(0), 29);
        });
        edges.promise(25, "Requests templates: all of them count as not sent.", () -> {
            FlowExporter x = Check.loaded("template port;template rate;");
            one(x);
            x.requestTemplates();
            due("requested", x, true, true);
            one(x);
            due("sent", x, false, false);
            check.due("both were sent", number(x, 1, 18, 2), 20);
            FlowExporter y = new FlowExporter();
            y.requestTemplates();
            twins.alike("requested before anything was sent", y, new FlowExporter());
        });
        edges.promise(26, "Tells whether a template is due now.", () -> {
            FlowExporter x = Check.loaded("refresh 5 5;");
            check.due("at first", x.isDue(0), true);
            one(x);
            x.advance(4);
            check.due("4 ticks after", x.isDue(0), false);
            x.advance(1);
            check.due("5 ticks after", x.isDue(0), true);
            // A record whose flow is exported does not make it sent, a message does.
            FlowExporter y = Check.loaded("drop rate;template rate;");
            one(y);
            check.due("nothing was sent", y.isDue(0), false);
            y.setSupport(8, true);
            check.due("so it is due", y.isDue(0), true);
        });
    }

    // ---- promise 24 ----

    private static void support() {
        edges.promise(24, "- `field`: 0 to 8", () -> {
            FlowExporter x = new FlowExporter();
            for (int field = 0; field < 9; field++) {
                check.due("before " + field, x.setSupport(field, false), true);
                check.due("without " + field, x.effectiveFields(0), 511 - (1 << field));
                check.due("back " + field, x.setSupport(field, true), false);
                check.due("with " + field, x.effectiveFields(0), 511);
            }
        });
        edges.promise(24, "Returns whether it was supported before.", () -> {
            // The same once more changes nothing, whatever it answers.
            for (int field = 0; field < 9; field++) {
                int same = field;
                twins.refusedAfter(FlowExporter::new, "supported " + field, true, x -> x.setSupport(same, true));
                twins.refusedAfter(Twins::full, "supported " + field, true, x -> x.setSupport(same, true));
            }
            twins.refusedAfter(Twins::busy, "not supported", false, x -> x.setSupport(5, false));
            FlowExporter x = Twins.busy();
            check.due("it answers false", x.setSupport(5, true), false);
            check.due("and has changed", x.effectiveFields(2), 32);
        });
        edges.promise(24, "Throws `IllegalArgumentException` if field is out of range", () -> {
            int[] wrong = {-1, 9, 31, 32, Integer.MAX_VALUE, Integer.MIN_VALUE};
            for (int field : wrong) {
                twins.refused("setSupport " + field + " false", ARGUMENT, x -> x.setSupport(field, false));
                twins.refused("setSupport " + field + " true", ARGUMENT, x -> x.setSupport(field, true));
            }
        });
    }

    // ---- promises 35, 36 and 39 to 41 ----

    private static void noSuchMessage(int promise, java.util.function.BiFunction<FlowExporter, Integer, Object> call) {
        edges.promise(promise, "Throws `IndexOutOfBoundsException` if there is no such message", () -> {
            for (int index : NO_MESSAGE) {
                twins.refused("message " + index, INDEX, x -> call.apply(x, index));
            }
            twins.refusedAfter(FlowExporter::new, "message 0 of none", INDEX, x -> call.apply(x, 0));
            int length = Twins.busy().queueLength();
            twins.refusedAfter(Twins::busy, "one behind the last", INDEX, x -> call.apply(x, length));
        });
    }

    private static void queueReading() {
        noSuchMessage(35, FlowExporter::messageLength);
        noSuchMessage(36, (x, index) -> x.messageByte(index, 0));
        edges.promise(35, "- `index`: index in the queue, from 0", () -> {
            FlowExporter x = Twins.full();
            check.due("the first", x.messageLength(0), number(x, 0, 2, 2));
            check.due("the last", x.messageLength(11), number(x, 11, 2, 2));
            check.due("two lengths", x.messageLength(0) == x.messageLength(11), false);
        });
        edges.promise(36, "- `index`: index in the queue, from 0", () -> {
            FlowExporter x = new FlowExporter();
            for (int k = 0; k < 12; k++) {
                one(x);
            }
            check.due("the first", x.messageByte(0, 11), 0);
            check.due("the last", x.messageByte(11, 11), 11);
        });
        edges.promise(36, "- `place`: index of the byte, from 0", () -> {
            FlowExporter x = Check.loaded("template destination;");
            x.observe(0, 255, 0, 0, 1);
            x.flush();
            check.due("the first", x.messageByte(0, 0), 0);
            check.due("the second", x.messageByte(0, 1), 10);
            check.due("the last", x.messageByte(0, 32), 255);
        });
        edges.promise(36, "Returns 0 to 255; NONE if the message is not that long.", () -> {
            int[] wrong = {-1, 600, 601, Integer.MAX_VALUE, Integer.MIN_VALUE};
            for (int place : wrong) {
                twins.refusedAfter(Twins::busy, "place " + place, -1, x -> x.messageByte(0, place));
                twins.refusedAfter(Twins::full, "place " + place, -1, x -> x.messageByte(11, place));
            }
            FlowExporter x = Twins.busy();
            for (int k = 0; k < x.queueLength(); k++) {
                int length = x.messageLength(k);
                check.due("the last of " + k, x.messageByte(k, length - 1) >= 0, true);
                check.due("one behind the last of " + k, x.messageByte(k, length), -1);
            }
            // A shorter message where a longer one was before.
            FlowExporter y = new FlowExporter();
            one(y);
            check.due("of 93 bytes", y.messageByte(0, 92), 0);
            y.lose(0);
            one(y);
            check.due("of 49 bytes", y.messageByte(0, 48), 0);
            check.due("behind them", y.messageByte(0, 49), -1);
            twins.refused("the message first", INDEX, z -> z.messageByte(12, -1));
        });
    }

    private static FlowExporter twelve() {
        FlowExporter x = new FlowExporter();
        for (int k = 0; k < 12; k++) {
            one(x);
        }
        return x;
    }

    /** The sequence numbers of the messages in the queue. */
    private static void numbers(String name, FlowExporter x, int... want) {
        check.due(name + ", queueLength", x.queueLength(), want.length);
        for (int k = 0; k < want.length && k < x.queueLength(); k++) {
            check.due(name + ", message " + k, number(x, k, 8, 4), want[k]);
        }
    }

    private static void queueCalls() {
        noSuchMessage(39, FlowExporter::lose);
        noSuchMessage(40, FlowExporter::duplicate);
        edges.promise(39, "- `index`: index in the queue, from 0", () -> {
            FlowExporter x = twelve();
            check.due("the first", x.lose(0), 93);
            numbers("the first", x, 1, 2, 3, 4, 5, 6, 7, 8, 9, 10, 11);
            check.due("the last", x.lose(10), 49);
            numbers("the last", x, 1, 2, 3, 4, 5, 6, 7, 8, 9, 10);
            check.due("one between", x.lose(4), 49);
            numbers("one between", x, 1, 2, 3, 4, 6, 7, 8, 9, 10);
            for (int k = 0; k < 9; k++) {
                x.lose(0);
            }
            check.due("empty", x.queueLength(), 0);
            check.due("the collector got nothing", x.counter(8), 0);
        });
        edges.promise(40, "- `index`: index in the queue, from 0", () -> {
            FlowExporter x = twelve();
            x.lose(11);
            x.lose(10);
            check.due("the first", x.duplicate(0), true);
            check.due("the last", x.duplicate(10), true);
            numbers("copies", x, 0, 1, 2, 3, 4, 5, 6, 7, 8, 9, 0, 0);
            check.dueObject("the whole message", hex(x, 11), hex(x, 0));
            x.lose(0);
            check.due("the copy stays", x.messageLength(10), 93);
        });
        edges.promise(40, "Returns true; false if the queue is full.", () -> {
            int[] indexes = {0, 5, 11};
            for (int index : indexes) {
                twins.refusedAfter(Twins::full, "duplicate " + index, false, x -> x.duplicate(index));
            }
            FlowExporter x = twelve();
            x.lose(3);
            check.due("the 12th", x.duplicate(10), true);
            check.due("the 13th", x.duplicate(10), false);
            check.due("dropped", x.dropped(), 0);
        });
        edges.promise(41, "- `index`: index in the queue", () -> {
            FlowExporter x = twelve();
            check.due("the first", x.exchange(0, 5), true);
            check.due("the last", x.exchange(11, 6), true);
            numbers("exchanged", x, 5, 1, 2, 3, 4, 0, 11, 7, 8, 9, 10, 6);
        });
        edges.promise(41, "- `other`: index in the queue", () -> {
            FlowExporter x = twelve();
            check.due("the first and the last", x.exchange(0, 11), true);
            numbers("exchanged", x, 11, 1, 2, 3, 4, 5, 6, 7, 8, 9, 10, 0);
            check.due("back", x.exchange(11, 0), true);
            numbers("back", x, 0, 1, 2, 3, 4, 5, 6, 7, 8, 9, 10, 11);
        });
        edges.promise(41, "Returns true; false if both are the same.", () -> {
            int[] indexes = {0, 5, 11};
            for (int index : indexes) {
                twins.refusedAfter(Twins::full, "exchange " + index, false, x -> x.exchange(index, index));
            }
            twins.refusedAfter(Twins::busy, "exchange 0", false, x -> x.exchange(0, 0));
        });
        edges.promise(41, "Throws `IndexOutOfBoundsException` if there is no such message or other one", () -> {
            for (int wrong : NO_MESSAGE) {
                twins.refused("exchange " + wrong + " 0", INDEX, x -> x.exchange(wrong, 0));
                twins.refused("exchange 0 " + wrong, INDEX, x -> x.exchange(0, wrong));
                twins.refused("exchange " + wrong + " with itself", INDEX, x -> x.exchange(wrong, wrong));
            }
            twins.refusedAfter(FlowExporter::new, "exchange 0 0 of none", INDEX, x -> x.exchange(0, 0));
            int length = Twins.busy().queueLength();
            twins.refusedAfter(Twins::busy, "one behind the last", INDEX, x -> x.exchange(length, 0));
            twins.refusedAfter(Twins::busy, "the other one behind the last", INDEX, x -> x.exchange(0, length));
        });
    }
}
