/** The boundary cases of COLLECTOR, but for the sums, and of promises 37, 38 and 42 to 48, sentence by sentence. */
public final class EdgesOfCollectorTest {
    private static final Edges edges = new Edges();
    private static final Check check = edges.check;
    private static final Twins twins = edges.twins;
    private static final Class<?> ARGUMENT = IllegalArgumentException.class;
    private static final Class<?> INDEX = IndexOutOfBoundsException.class;
    private static final int LOST = 0;
    private static final int LATE = 1;
    private static final int DUPLICATES = 2;
    private static final int UNDECODABLE = 3;
    private static final int MALFORMED = 4;
    private static final int RESTARTS = 5;
    private static final int OVERFLOW = 6;
    private static final int DECODED = 7;
    private static final int RECEIVED = 8;
    /** Template 0 has the field source alone: each byte of a data set is a record. */
    private static final String SOURCE = "0002 000c 0100 0001 0000 0001";

    public static void main(String[] args) {
        malformed();
        duplicates();
        sequence();
        restarts();
        late();
        sets();
        templateSets();
        dataSets();
        records();
        restarting();
        delivering();
        templates();
        counters();
        edges.finish(37, 38, 42, 43, 44, 45, 46, 47, 48);
    }

    private static int put(FlowExporter x, int time, int sequence, int records, String sets) {
        return Check.receive(x, Check.framed(time, sequence, records, sets));
    }

    /** An object that has received one message, so that it expects the given number. */
    private static FlowExporter expecting(long number) {
        FlowExporter x = new FlowExporter();
        put(x, 100, (int) number - 1, 1, "");
        return x;
    }

    // ---- step 1 ----

    private static void malformed() {
        edges.terms("If it has fewer than 16 bytes, does not begin with the number 10, or its length field is not its"
            + " number of bytes, it is counted as malformed and ignored.", () -> {
                String header = "000a0010 00000007 00000005 00000001";
                FlowExporter good = new FlowExporter();
                Check.receive(good, Check.bytes(header));
                check.due("16 bytes", good.counter(MALFORMED), 0);
                check.due("are no malformed message", good.expected(), 6);
                String[] wrong = {"", "00", "000a", "000a000f 00000007 00000005 000000", "000a000e 00000007 00000005 0000",
                    "00090010 00000007 00000005 00000001", "000b0010 00000007 00000005 00000001",
                    "010a0010 00000007 00000005 00000001", "0a000010 00000007 00000005 00000001",
                    "000a000f 00000007 00000005 00000001", "000a0011 00000007 00000005 00000001",
                    "000a0000 00000007 00000005 00000001", "000a0110 00000007 00000005 00000001",
                    "000affff 00000007 00000005 00000001", header + "00", "000a0010 00000007 00000005 00000001 01000004"};
                for (String message : wrong) {
                    FlowExporter x = new FlowExporter();
                    check.due("receive " + message, Check.receive(x, Check.bytes(message)), 0);
                    for (int k = 0; k < 9; k++) {
                        check.due("counter " + k + " of " + message, x.counter(k), k == MALFORMED || k == RECEIVED ? 1 : 0);
                    }
                    check.due("expected of " + message, x.expected(), -1);
                    // Ignored: it is none of the messages before.
                    Check.receive(x, Check.bytes(header));
                    check.due("no duplicate of " + message, x.counter(DUPLICATES), 0);
                }
                // The longest message that the buffer can hold.
                FlowExporter x = new FlowExporter();
                check.due("700 bytes", put(x, 0, 0, 0, SOURCE + "0100 02a0" + "01".repeat(668)), 668);
                check.due("none malformed", x.counter(MALFORMED), 0);
            });
    }

    // ---- step 2 ----

    private static void duplicates() {
        edges.terms("If its sequence number and its time are those of one of the last 8 messages that came to step 3, it"
            + " is counted as a duplicate and ignored.", () -> {
                for (int between = 0; between <= 9; between++) {
                    FlowExporter x = new FlowExporter();
                    put(x, 50, 1000, 0, "");
                    for (int k = 0; k < between; k++) {
                        put(x, 50, 1001 + k, 0, "");
                    }
                    String before = State.of(x).replaceAll("(?m)^counter [28].*\n", "");
                    check.due("again after " + between, put(x, 50, 1000, 9, SOURCE + "0100 0005 01"), between < 8 ? 0 : 1);
                    check.due("duplicates after " + between, x.counter(DUPLICATES), between < 8 ? 1 : 0);
                    check.due("late after " + between, x.counter(LATE), between < 8 ? 0 : 1);
                    if (between < 8) {
                        check.dueObject("ignored", State.of(x).replaceAll("(?m)^counter [28].*\n", ""), before);
                    }
                }
                // Both must be the same.
                FlowExporter x = new FlowExporter();
                put(x, 50, 1000, 0, "");
                put(x, 51, 1000, 0, "");
                put(x, 50, 1001, 0, "");
                check.due("one of both", x.counter(DUPLICATES), 0);
                put(x, 51, 1001, 0, "");
                check.due("of two messages", x.counter(DUPLICATES), 0);
                // Duplicates and malformed messages did not come to step 3: they push none out.
                FlowExporter y = new FlowExporter();
                for (int k = 0; k < 8; k++) {
                    put(y, 50, 1000 + k, 0, "");
                }
                for (int k = 0; k < 9; k++) {
                    put(y, 50, 1007, 0, "");
                    Check.receive(y, Check.bytes("000a"));
                }
                check.due("duplicates", y.counter(DUPLICATES), 9);
                put(y, 50, 1000, 0, "");
                check.due("the first of eight still", y.counter(DUPLICATES), 10);
                // Late messages and those with wrong sets came to it.
                FlowExporter z = new FlowExporter();
                put(z, 50, 1000, 0, "");
                put(z, 50, 900, 0, "");
                put(z, 50, 900, 0, "");
                put(z, 50, 1001, 0, "00");
                put(z, 50, 1001, 0, "00");
                check.due("late and wrong ones", z.counter(DUPLICATES), 2);
                check.due("malformed once", z.counter(MALFORMED), 1);
                // An object that has received nothing knows no message with 0 and 0.
                FlowExporter none = new FlowExporter();
                put(none, 0, 0, 0, "");
                check.due("the first one", none.counter(DUPLICATES), 0);
                put(none, 0, 0, 0, "");
                check.due("the second one", none.counter(DUPLICATES), 1);
            });
    }

    // ---- step 3 ----

    private static void sequence() {
        edges.terms("If it is the first message since the collector started, the expected sequence number is set to its"
            + " sequence number.", () -> {
                int[] first = {0, 1, Integer.MAX_VALUE, Integer.MIN_VALUE, -1};
                for (int number : first) {
                    FlowExporter x = new FlowExporter();
                    put(x, 0, number, 0, "");
                    check.due("first " + number, x.expected(), number & 0xFFFFFFFFL);
                    check.due("nothing lost", x.counter(LOST), 0);
                    check.due("nothing late", x.counter(LATE), 0);
                    check.due("no restart", x.counter(RESTARTS), 0);
                }
            });
        edges.terms("Otherwise let d be its sequence number minus the expected one, as a 32-bit int. If d is positive,"
            + " lost increases by d.", () -> {
                long[] expected = {1, 1000, 1L << 31, (1L << 31) + 5, (1L << 32) - 1, 1L << 32};
                int[] differences = {0, 1, 2, Integer.MAX_VALUE, -1, Integer.MIN_VALUE, Integer.MIN_VALUE + 1};
                for (long number : expected) {
                    for (int d : differences) {
                        FlowExporter x = expecting(number);
                        check.due("expected", x.expected(), number & 0xFFFFFFFFL);
                        // An earlier time than that of the message before: there is no restart, and no duplicate.
                        put(x, 99, (int) number + d, 3, "");
                        String name = "expected " + number + ", d is " + d;
                        check.due(name + ", lost", x.counter(LOST), Math.max(0, d));
                        check.due(name + ", late", x.counter(LATE), d < 0 ? 1 : 0);
                        check.due(name + ", expected", x.expected(), (number + (d < 0 ? 0 : d + 3L)) & 0xFFFFFFFFL);
                    }
                }
                // More than an int can hold.
                FlowExporter x = expecting(1);
                for (int k = 0; k < 4; k++) {
                    put(x, 100, (int) (x.expected() + Integer.MAX_VALUE), 0, "");
                }
                check.due("four times the most", x.counter(LOST), 4L * Integer.MAX_VALUE);
            });
        edges.terms("If the message is not late, the expected sequence number becomes its sequence number plus its number"
            + " of records.", () -> {
                FlowExporter x = new FlowExporter();
                put(x, 0, -2, 1, "");
                check.due("before 2^32", x.expected(), (1L << 32) - 1);
                put(x, 1, -1, 1, "");
                check.due("at 2^32", x.expected(), 0);
                put(x, 2, 0, 1, "");
                check.due("behind 2^32", x.expected(), 1);
                check.due("nothing lost", x.counter(LOST), 0);
                check.due("nothing late", x.counter(LATE), 0);
                check.due("no restart", x.counter(RESTARTS), 0);
                FlowExporter y = new FlowExporter();
                put(y, 0, -1, Integer.MAX_VALUE, "");
                check.due("the most records", y.expected(), (1L << 31) - 2);
            });
        edges.terms("(In the header this is a number from 0 to 2^31 - 1; a greater one counts as 0.)", () -> {
            int[] records = {0, 1, Integer.MAX_VALUE, Integer.MIN_VALUE, -1};
            long[] counted = {0, 1, Integer.MAX_VALUE, 0, 0};
            for (int k = 0; k < records.length; k++) {
                FlowExporter x = expecting(10);
                put(x, 100, 10, records[k], "");
                check.due("expected after " + records[k], x.expected(), 10 + counted[k]);
                FlowExporter y = expecting(10);
                put(y, 100, 30, 0, "");
                put(y, 100, 5, records[k], "");
                check.due("lost after a late one of " + records[k], y.counter(LOST), Math.max(0, 20 - counted[k]));
            }
        });
    }

    private static void restarts() {
        edges.terms("If d is negative and the sequence number is 0 and its time is greater than that of the last message"
            + " that came to step 3 before (both as signed 32-bit ints), the exporter has restarted: restarts increases"
            + " by 1.", () -> {
                int[] before = {100, 0, -1, Integer.MAX_VALUE, Integer.MIN_VALUE, Integer.MIN_VALUE + 1};
                int[] times = {99, 100, 101, -1, 0, 1, Integer.MIN_VALUE, Integer.MIN_VALUE + 1, Integer.MAX_VALUE};
                for (int last : before) {
                    for (int time : times) {
                        FlowExporter x = new FlowExporter();
                        put(x, last, 7, 3, "");
                        put(x, time, 0, 4, "");
                        String name = "time " + time + " behind " + last;
                        check.due(name + ", restarts", x.counter(RESTARTS), time > last ? 1 : 0);
                        check.due(name + ", late", x.counter(LATE), time > last ? 0 : 1);
                        check.due(name + ", expected", x.expected(), time > last ? 4 : 10);
                        check.due(name + ", lost", x.counter(LOST), 0);
                    }
                }
                // The number must be 0, and d negative.
                int[] numbers = {1, -1, 9, 10};
                int[] late = {1, 1, 1, 0};
                for (int k = 0; k < numbers.length; k++) {
                    FlowExporter x = new FlowExporter();
                    put(x, 1, 7, 3, "");
                    put(x, 2, numbers[k], 4, "");
                    check.due("number " + numbers[k] + ", restarts", x.counter(RESTARTS), 0);
                    check.due("number " + numbers[k] + ", late", x.counter(LATE), late[k]);
                }
                FlowExporter y = new FlowExporter();
                put(y, 1, 0, 0, "");
                put(y, 2, 0, 0, "");
                check.due("d is 0", y.counter(RESTARTS), 0);
                // Expected is 2^31 + 1: then d is 2^31 - 1, which is positive.
                FlowExporter z = new FlowExporter();
                put(z, 1, Integer.MIN_VALUE, 1, "");
                put(z, 2, 0, 0, "");
                check.due("d is positive", z.counter(RESTARTS), 0);
                check.due("so they are lost", z.counter(LOST), Integer.MAX_VALUE);
                FlowExporter least = new FlowExporter();
                put(least, 1, Integer.MAX_VALUE, 1, "");
                put(least, 2, 0, 0, "");
                check.due("d is the least int", least.counter(RESTARTS), 1);
                // The last message before is the last one that came to step 3: late ones too, duplicates not.
                FlowExporter w = new FlowExporter();
                put(w, 10, 7, 3, "");
                put(w, 20, 5, 0, "");
                put(w, 15, 0, 1, "");
                check.due("not later than the late one", w.counter(RESTARTS), 0);
                put(w, 10, 7, 3, "");
                check.due("a duplicate", w.counter(DUPLICATES), 1);
                put(w, 14, 0, 1, "");
                check.due("a duplicate is not the last one", w.counter(RESTARTS), 0);
                put(w, 15, 6, 0, "");
                put(w, 16, 0, 1, "");
                check.due("later than the last one", w.counter(RESTARTS), 1);
            });
    }

    private static void late() {
        edges.terms("If d is negative otherwise, the message is late: late increases by 1, and lost decreases by the"
            + " number of records of its header, but not below 0.", () -> {
                int[] records = {0, 1, 19, 20, 21, Integer.MAX_VALUE};
                for (int count : records) {
                    FlowExporter x = expecting(10);
                    put(x, 100, 30, 5, "");
                    check.due("lost", x.counter(LOST), 20);
                    check.due("a late one is read", put(x, 100, 12, count, SOURCE + "0100 0006 0102"), 2);
                    check.due("late, with " + count, x.counter(LATE), 1);
                    check.due("lost, with " + count, x.counter(LOST), Math.max(0, 20 - count));
                    check.due("expected stays", x.expected(), 35);
                }
                FlowExporter none = expecting(10);
                put(none, 100, 5, 3, "");
                check.due("nothing was lost", none.counter(LOST), 0);
                check.due("late all the same", none.counter(LATE), 1);
            });
    }

    // ---- step 4: sets ----

    private static void sets() {
        edges.terms("If fewer than 4 bytes are left, or a set's length is less than 4 or greater than the number of bytes"
            + " left, reading ends (if bytes are left, the message is counted as malformed, too).", () -> {
                String good = SOURCE + "0100 0005 01";
                String[] ends = {"", "00", "0100", "010000", "01000004", "01000003", "01000002", "01000000", "01000005",
                    "0100000500", "010000060000", "01000007 0000", "0100ffff", "00ff0004", "00ff0003", "00ff0005",
                    "00020004", "00020003", "00020005"};
                boolean[] wrong = {false, true, true, true, false, true, true, true, true, false, false, true, true, false,
                    true, true, false, true, true};
                int[] more = {0, 0, 0, 0, 0, 0, 0, 0, 0, 1, 2, 0, 0, 0, 0, 0, 0, 0, 0};
                for (int k = 0; k < ends.length; k++) {
                    FlowExporter x = new FlowExporter();
                    check.due("decoded with " + ends[k], put(x, 0, 5, 2, good + ends[k]), 1 + more[k]);
                    check.due("malformed with " + ends[k], x.counter(MALFORMED), wrong[k] ? 1 : 0);
                    check.due("it came to step 3 with " + ends[k], x.expected(), 7);
                    check.due("undecodable with " + ends[k], x.counter(UNDECODABLE), 0);
                }
                // Nothing behind it is read, and it counts once.
                FlowExporter x = new FlowExporter();
                check.due("behind it", put(x, 0, 0, 0, SOURCE + "0100 0003 0100 0005 01 00"), 0);
                check.due("once", x.counter(MALFORMED), 1);
                FlowExporter none = new FlowExporter();
                put(none, 0, 0, 0, "");
                check.due("no sets", none.counter(MALFORMED), 0);
            });
        edges.terms("Sets with other ids are ignored.", () -> {
            int[] ids = {0, 1, 3, 10, 254, 255, 260, 261, 512, 32768, 65535};
            for (int id : ids) {
                FlowExporter x = new FlowExporter();
                put(x, 0, 0, 0, SOURCE);
                String sets = String.format("%04x 0005 01", id);
                check.due("id " + id, put(x, 1, 0, 0, sets + "0100 0005 02"), 1);
                check.due("undecodable by " + id, x.counter(UNDECODABLE), 0);
                check.due("malformed by " + id, x.counter(MALFORMED), 0);
                check.due("known by " + id, x.knownTemplates(), 1);
            }
        });
    }

    /** The templates that are known after a set with this content. */
    private static int known(String content) {
        FlowExporter x = new FlowExporter();
        byte[] body = Check.bytes(content);
        put(x, 0, 0, 0, String.format("0002%04x", 4 + body.length) + Check.hex(body));
        check.due("no malformed message: " + content, x.counter(MALFORMED), 0);
        check.due("nothing undecodable: " + content, x.counter(UNDECODABLE), 0);
        return x.knownTemplates();
    }

    private static void templateSets() {
        edges.terms("a template with an id from 256 to 259 whose fields have numbers 0 to 8 and the lengths above, each at"
            + " most once, and at least one, replaces that of this id;", () -> {
                int[] lengths = {1, 1, 2, 1, 4, 8, 4, 4, 4};
                for (int id = 254; id <= 261; id++) {
                    boolean one = id >= 256 && id <= 259;
                    check.due("id " + id, known(String.format("%04x 0001 0000 0001", id)), one ? 1 << id - 256 : 0);
                }
                check.due("id 65535", known("ffff 0001 0000 0001"), 0);
                check.due("id 0", known("0000 0001 0000 0001"), 0);
                for (int field = 0; field < 9; field++) {
                    for (int length = 0; length < 10; length++) {
                        check.due("field " + field + " of " + length,
                            known(String.format("0100 0001 %04x %04x", field, length)), length == lengths[field] ? 1 : 0);
                    }
                    check.due("field " + field + " of 256 more",
                        known(String.format("0100 0001 %04x %04x", field, 256 + lengths[field])), 0);
                    check.due("twice " + field,
                        known(String.format("0100 0002 %1$04x %2$04x %1$04x %2$04x", field, lengths[field])), 0);
                }
                for (int length = 0; length < 10; length++) {
                    check.due("field 9 of " + length, known(String.format("0100 0001 0009 %04x", length)), 0);
                    check.due("field 256 of " + length, known(String.format("0100 0001 0100 %04x", length)), 0);
                    check.due("field 65535 of " + length, known(String.format("0100 0001 ffff %04x", length)), 0);
                }
                check.due("field 9 of no bytes before another", known("0100 0002 0009 0000 0000 0001"), 0);
                check.due("field 9 of no bytes behind another", known("0100 0002 0000 0001 0009 0000"), 0);
                check.due("no field", known("0100 0000"), 0);
                StringBuilder all = new StringBuilder("0103 0009");
                for (int field = 8; field >= 0; field--) {
                    all.append(String.format("%04x%04x", field, lengths[field]));
                }
                check.due("nine fields", known(all.toString()), 8);
                check.due("ten fields", known(all.toString().replace("0103 0009", "0103 000a") + "00000001"), 0);
                // It replaces the one before, with its fields and with the time.
                FlowExporter x = new FlowExporter();
                put(x, 0, 0, 0, SOURCE);
                x.advance(5);
                put(x, 1, 0, 0, "0002 000c 0100 0001 0002 0002");
                check.due("its age", x.templateAge(0), 0);
                check.due("a record of two bytes", put(x, 2, 0, 0, "0100 0006 0102"), 1);
                check.due("its port", x.find(0, 0, 0x102, 0), 0);
            });
        edges.terms("reading the set ends at the first template that is not so, or for which the bytes of the set do not"
            + " suffice.", () -> {
                String good = "0100 0001 0000 0001";
                String next = "0101 0001 0000 0001";
                check.due("both", known(good + next), 3);
                String[] wrong = {"00ff 0001 0000 0001", "0104 0001 0000 0001", "0102 0000", "0102 0001 0009 0001",
                    "0102 0001 0000 0002", "0102 0002 0000 0001 0000 0001", "0102 0003 0000 0001 0001 0001 0001 0001"};
                for (String one : wrong) {
                    check.due("behind " + one, known(good + one + next), 1);
                }
                String[] few = {"01", "0101", "010100", "0101 0001", "0101 0001 00", "0101 0001 0000", "0101 0001 0000 00",
                    "0101 0002 0000 0001", "0101 0002 0000 0001 0001 00", "0101 ffff 0000 0001", "0101 4000", "0101 8000"};
                for (String one : few) {
                    check.due("with " + one, known(good + one), 1);
                }
                // The bytes behind the set do not help: the next set begins like the field, or the length, that is missing.
                FlowExporter field = new FlowExporter();
                put(field, 0, 0, 0, "0002 000c 0100 0002 0000 0001 0005 0008 00000000");
                check.due("the next set is no field", field.knownTemplates(), 0);
                FlowExporter half = new FlowExporter();
                put(half, 0, 0, 0, "0002 000e 0100 0002 0000 0001 0001 0001 0004");
                check.due("the next set is no length", half.knownTemplates(), 0);
                // And the next set is read all the same.
                FlowExporter x = new FlowExporter();
                check.due("the next set", put(x, 0, 0, 0, SOURCE + "0002 000c 0101 0002 0001 0001 0100 0005 07"), 1);
                check.due("known", x.knownTemplates(), 1);
                // A wrong one leaves the template of its id as it was.
                FlowExporter y = new FlowExporter();
                put(y, 0, 0, 0, SOURCE);
                y.advance(5);
                put(y, 1, 0, 0, "0002 0010 0100 0002 0001 0001 0001 0001");
                check.due("its age", y.templateAge(0), 5);
                check.due("its records", put(y, 2, 0, 0, "0100 0006 0709"), 2);
                check.due("its key", y.find(7, 0, 0, 0), 0);
            });
    }

    private static void dataSets() {
        edges.terms("if the template of this id is known and was received at most LIFETIME ticks ago, as many records as"
            + " fit into the set are decoded; otherwise undecodable increases by 1.", () -> {
                int[] limits = {1, 10, 5000, 100000};
                for (int limit : limits) {
                    FlowExporter x = Check.loaded("lifetime " + limit + ";");
                    x.advance(3);
                    put(x, 0, 0, 0, SOURCE);
                    for (int left = limit; left > 0; left -= 1000) {
                        x.advance(Math.min(left, 1000));
                    }
                    check.due("at " + limit, put(x, 1, 0, 0, "0100 0005 01"), 1);
                    check.due("decodable", x.counter(UNDECODABLE), 0);
                    x.advance(1);
                    check.due("behind " + limit, put(x, 2, 0, 0, "0100 0005 01"), 0);
                    check.due("undecodable", x.counter(UNDECODABLE), 1);
                    put(x, 3, 0, 0, SOURCE);
                    check.due("received again", put(x, 4, 0, 0, "0100 0005 01"), 1);
                }
                // Records of 5 bytes: source and packets.
                FlowExporter x = new FlowExporter();
                put(x, 0, 0, 0, "0002 0010 0103 0002 0000 0001 0004 0004");
                for (int bytes = 0; bytes <= 16; bytes++) {
                    String set = String.format("0103 %04x", 4 + bytes) + "00".repeat(bytes);
                    check.due("records in " + bytes, put(x, 1 + bytes, 0, 0, set), bytes / 5);
                    check.due("no fault in " + bytes, x.counter(MALFORMED), 0);
                }
                check.due("nothing undecodable", x.counter(UNDECODABLE), 0);
                // Unknown ids, each set for itself, also an empty one.
                FlowExporter y = new FlowExporter();
                check.due("unknown", put(y, 0, 0, 0, "0100 0005 01 0101 0004 0102 0005 01 0103 0008 01020304"), 0);
                check.due("undecodable", y.counter(UNDECODABLE), 4);
                check.due("decoded", y.counter(DECODED), 0);
                // The order of the sets counts.
                FlowExporter z = new FlowExporter();
                check.due("a template behind its data", put(z, 0, 0, 0, "0100 0005 01" + SOURCE + "0100 0005 01"), 1);
                check.due("undecodable", z.counter(UNDECODABLE), 1);
            });
    }

    // ---- records ----

    private static void records() {
        edges.terms("A decoded record has a key (fields that are missing count as 0), a number of packets (unsigned) and of"
            + " bytes (a signed long), each 0 if missing,", () -> {
                FlowExporter x = new FlowExporter();
                put(x, 0, 0, 0, SOURCE + "0100 0006 00 ff");
                check.due("keys", x.keyCount(), 2);
                int[] want = {255, 0, 0, 0};
                for (int field = 0; field < 4; field++) {
                    check.due("of 0: " + field, x.key(0, field), 0);
                    check.due("of 255: " + field, x.key(1, field), want[field]);
                }
                check.due("packets are missing", x.raw(1, 0), 0);
                check.due("bytes are missing", x.raw(1, 1), 0);
                String template = "0002 0010 0101 0002 0004 0004 0005 0008";
                String[] numbers = {"00000000 0000000000000000", "7fffffff 7fffffffffffffff", "80000000 8000000000000000",
                    "ffffffff ffffffffffffffff"};
                long[] packets = {0, Integer.MAX_VALUE, 1L << 31, (1L << 32) - 1};
                long[] bytes = {0, Long.MAX_VALUE, Long.MIN_VALUE, -1};
                for (int k = 0; k < numbers.length; k++) {
                    FlowExporter y = new FlowExporter();
                    check.due("decoded", put(y, 0, 0, 0, template + "0101 0010" + numbers[k]), 1);
                    check.due("packets " + numbers[k], y.raw(0, 0), packets[k]);
                    check.due("bytes " + numbers[k], y.raw(0, 1), bytes[k]);
                    check.due("its key", y.find(0, 0, 0, 0), 0);
                }
                FlowExporter all = new FlowExporter();
                put(all, 0, 0, 0, "0002 0018 0102 0004 0000 0001 0001 0001 0002 0002 0003 0001 0102 0009 ff ff ffff ff");
                check.due("the greatest key", all.find(255, 255, 65535, 255), 0);
            });
        edges.terms("and a rate N: if the field is present and its float p is greater than 0 and at most 1, N is (int) (1f"
            + " / p + 0.5f), but at most 1024; otherwise it is the assumed rate.", () -> {
                int[] bits = {0, 1, 0x7fffff, 0x800000, 0x3a7fffff, 0x3a800000, 0x3a800001, 0x3a801000, 0x3a802008,
                    0x3a80200c, 0x3f000000, 0x3f2aaaaa, 0x3f2aaaab, 0x3f7fffff, 0x3f800000, 0x3f800001, 0x40000000,
                    0x7f7fffff, 0x7f800000, 0x7f800001, 0x7fffffff, 0x80000000, 0x80000001, 0xbf000000, 0xbf800000,
                    0xff800000, 0xffffffff};
                for (int one : bits) {
                    float p = Float.intBitsToFloat(one);
                    long want = p > 0 && p <= 1 ? Math.min(1024, (int) (1f / p + 0.5f)) : 77;
                    FlowExporter x = Check.loaded("assume 77;");
                    put(x, 0, 0, 0, "0002 0010 0100 0002 0004 0004 0008 0004 0100 000c 00000001"
                        + String.format("%08x", one));
                    check.due("bits " + Integer.toHexString(one), x.estimate(0, 0), want);
                }
                int[] assumed = {1, 2, 1023, 1024};
                for (int rate : assumed) {
                    FlowExporter x = Check.loaded("assume " + rate + ";");
                    put(x, 0, 0, 0, "0002 000c 0100 0001 0004 0004 0100 0008 00000001");
                    check.due("assumed " + rate, x.estimate(0, 0), rate);
                }
                // 1 / 1024 is the least p that is no more than that rate; the assumed one may not stand in for it.
                FlowExporter x = Check.loaded("assume 3;sampling 1024;");
                x.setRate(1024);
                for (int k = 0; k < 100 && x.cacheSize() == 0; k++) {
                    x.observeMany(1, 1, 1, 1, 1, 200);
                }
                x.flush();
                x.deliverAll();
                check.due("by its own rate", x.estimate(0, 0), 1024 * x.raw(0, 0));
            });
        edges.terms("If its key is known, or fewer than 24 keys are known (then it becomes the last one), the record is"
            + " added to this key; otherwise it is counted as overflow (it counts as decoded, too).", () -> {
                FlowExporter x = new FlowExporter();
                put(x, 0, 0, 0, SOURCE);
                for (int k = 0; k < 30; k++) {
                    check.due("record " + k, put(x, 1 + k, 0, 0, String.format("0100 0005 %02x", 100 - k)), 1);
                    check.due("keys after " + k, x.keyCount(), Math.min(24, k + 1));
                    check.due("overflow after " + k, x.counter(OVERFLOW), Math.max(0, k - 23));
                    check.due("decoded after " + k, x.counter(DECODED), k + 1);
                    check.due("it is the last one, " + k, x.find(100 - k, 0, 0, 0), k < 24 ? k : -1);
                }
                check.due("known ones", put(x, 50, 0, 0, "0100 0006 64 4d"), 2);
                check.due("are no overflow", x.counter(OVERFLOW), 6);
                check.due("keys", x.keyCount(), 24);
                FlowExporter full = Twins.full();
                long before = full.totalEstimate(0);
                check.due("records of the full one", full.receive(), 668);
                check.due("their overflow", full.counter(OVERFLOW), 2 + 668);
                check.due("nothing is added", full.totalEstimate(0), before);
            });
    }

    // ---- restarting ----

    private static void restarting() {
        edges.terms("Restarting the collector: it forgets all templates, the last 8 messages and the expected sequence"
            + " number (keys and counters stay).", () -> {
                FlowExporter x = new FlowExporter();
                put(x, 5, 10, 1, SOURCE + "0100 0006 0102");
                put(x, 5, 13, 1, "");
                put(x, 5, 13, 1, "");
                String keys = State.of(x).replaceAll("(?m)^(known|age).*\n", "");
                check.due("restart", x.restartCollector(), 1);
                check.dueObject("keys and counters", State.of(x).replaceAll("(?m)^(known|age).*\n", ""), keys);
                check.due("expected", x.expected(), -1);
                check.due("templates", x.knownTemplates(), 0);
                check.due("age", x.templateAge(0), -1);
                put(x, 5, 13, 1, "0100 0005 01");
                check.due("no duplicate", x.counter(DUPLICATES), 1);
                check.due("undecodable", x.counter(UNDECODABLE), 1);
                put(x, 5, 10, 1, "");
                check.due("no duplicate either", x.counter(DUPLICATES), 1);
                check.due("but late", x.counter(LATE), 1);
                // The first message since then is neither lost, late nor a restart, whatever its number.
                FlowExporter y = new FlowExporter();
                put(y, 5, 1000, 0, "");
                y.restartCollector();
                put(y, 6, 0, 0, "");
                check.due("restarts", y.counter(RESTARTS), 0);
                y.restartCollector();
                put(y, 5, 5000, 0, "");
                check.due("lost", y.counter(LOST), 0);
                check.due("late", y.counter(LATE), 0);
                // The exporter does not notice.
                FlowExporter z = Twins.busy();
                boolean before = z.isDue(0);
                long sequence = z.sequence();
                z.restartCollector();
                check.due("isDue", z.isDue(0), before);
                check.due("sequence", z.sequence(), sequence);
                check.due("supported fields", z.effectiveFields(0), Twins.busy().effectiveFields(0));
            });
        edges.promise(48, "Returns the number of templates that it knew (too old ones included).", () -> {
            check.due("none", new FlowExporter().restartCollector(), 0);
            FlowExporter x = Check.loaded("lifetime 1;");
            put(x, 0, 0, 0, "0002 0024 0100 0001 0000 0001 0101 0001 0000 0001 0102 0001 0000 0001 0103 0001 0000 0001");
            x.advance(2);
            check.due("too old", x.knownTemplates(), 0);
            check.due("four", x.restartCollector(), 4);
            check.due("again", x.restartCollector(), 0);
        });
    }

    // ---- promises 37, 38 and 42 ----

    private static FlowExporter three() {
        FlowExporter x = Check.loaded("template source;refresh 1000 100000;");
        for (int k = 0; k < 3; k++) {
            for (int flow = 0; flow <= k; flow++) {
                x.observe(10 * k + flow, 0, 0, 0, 1);
            }
            x.flush();
        }
        return x;
    }

    private static void delivering() {
        edges.promise(37, "- `index`: index in the queue, from 0", () -> {
            FlowExporter x = three();
            check.due("the first", x.deliver(0), 1);
            check.due("two left", x.queueLength(), 2);
            check.due("the last", x.deliver(1), 3);
            check.due("one left", x.queueLength(), 1);
            check.due("lost", x.counter(LOST), 2);
            check.due("the only one", x.deliver(0), 2);
            check.due("none left", x.queueLength(), 0);
            check.due("late", x.counter(LATE), 1);
            check.due("lost no more", x.counter(LOST), 0);
            FlowExporter full = Twins.full();
            full.deliver(11);
            check.due("the last of twelve", full.queueLength(), 11);
        });
        edges.promise(37, "Returns the number of records that were decoded.", () -> {
            FlowExporter x = three();
            check.due("without its template", x.deliver(2), 0);
            check.due("undecodable", x.counter(UNDECODABLE), 1);
            x.duplicate(0);
            check.due("with it", x.deliver(0), 1);
            check.due("a copy", x.deliver(1), 0);
            check.due("duplicate", x.counter(DUPLICATES), 1);
            FlowExporter y = Twins.full();
            long overflow = y.counter(OVERFLOW);
            check.due("an overflow is decoded, too", y.deliver(0), 1);
            check.due("overflow", y.counter(OVERFLOW), overflow + 1);
        });
        edges.promise(37, "Throws `IndexOutOfBoundsException` if there is no such message", () -> {
            int[] wrong = {-1, 12, 13, Integer.MAX_VALUE, Integer.MIN_VALUE};
            for (int index : wrong) {
                twins.refused("deliver " + index, INDEX, x -> x.deliver(index));
            }
            twins.refusedAfter(FlowExporter::new, "deliver 0 of none", INDEX, x -> x.deliver(0));
            int length = Twins.busy().queueLength();
            twins.refusedAfter(Twins::busy, "one behind the last", INDEX, x -> x.deliver(length));
        });
        edges.promise(38, "Delivers all messages of the queue, the first one first.", () -> {
            FlowExporter x = three();
            check.due("three", x.deliverAll(), 6);
            check.due("in order", x.counter(LATE) + x.counter(LOST) + x.counter(UNDECODABLE), 0);
            check.due("empty", x.queueLength(), 0);
            check.due("received", x.counter(RECEIVED), 3);
            check.due("none", x.deliverAll(), 0);
            check.due("received none", x.counter(RECEIVED), 3);
            FlowExporter full = Twins.full();
            long before = full.counter(RECEIVED);
            full.deliverAll();
            check.due("twelve", full.counter(RECEIVED), before + 12);
            FlowExporter y = Twins.full();
            for (int k = 0; k < 12; k++) {
                y.deliver(0);
            }
            FlowExporter z = Twins.full();
            z.deliverAll();
            twins.alike("at once and one by one", z, y);
        });
        edges.promise(42, "Lets the collector receive the input buffer as a message.", () -> {
            FlowExporter x = new FlowExporter();
            check.due("an empty buffer", x.receive(), 0);
            check.due("is malformed", x.counter(MALFORMED), 1);
            check.due("and received", x.counter(RECEIVED), 1);
            check.due("a full buffer", Twins.full().receive(), 668);
            // The message of a queue, by the buffer.
            FlowExporter y = three();
            FlowExporter z = three();
            byte[] message = Check.message(y, 0);
            check.due("the same message", Check.receive(y, message), z.deliver(0));
            y.lose(0);
            twins.alike("received and delivered", y, z);
        });
    }

    // ---- promises 43 to 45 ----

    private static void templates() {
        edges.promise(43, "Returns the set as a bit mask (bit k for the id 256 + k).", () -> {
            FlowExporter x = Check.loaded("lifetime 10;");
            check.due("none", x.knownTemplates(), 0);
            for (int k = 0; k < 4; k++) {
                put(x, k, 0, 0, String.format("0002 000c 010%d 0001 0000 0001", k));
                check.due("up to " + k, x.knownTemplates(), (2 << k) - 1);
                x.advance(1);
            }
            x.advance(6);
            check.due("the first is 10 ticks old", x.knownTemplates(), 15);
            for (int k = 0; k < 4; k++) {
                x.advance(1);
                check.due("too old: " + k, x.knownTemplates(), 15 & -2 << k);
            }
        });
        edges.promise(44, "- `template`: 0 to 3", () -> {
            FlowExporter x = new FlowExporter();
            put(x, 0, 0, 0, "0002 0014 0100 0001 0000 0001 0103 0001 0000 0001");
            x.advance(6);
            check.due("0", x.templateAge(0), 6);
            check.due("1", x.templateAge(1), -1);
            check.due("2", x.templateAge(2), -1);
            check.due("3", x.templateAge(3), 6);
        });
        edges.promise(44, "Returns the number of ticks; NONE if it does not know one with the id 256 + template.", () -> {
            for (int k = 0; k < 4; k++) {
                int template = k;
                twins.refusedAfter(FlowExporter::new, "templateAge " + k, -1, x -> x.templateAge(template));
            }
            FlowExporter x = Check.loaded("lifetime 1;");
            put(x, 0, 0, 0, SOURCE);
            check.due("just received", x.templateAge(0), 0);
            x.advance(1000);
            check.due("too old, but known", x.templateAge(0), 1000);
            x.restartCollector();
            check.due("forgotten", x.templateAge(0), -1);
        });
        edges.promise(44, "Throws `IllegalArgumentException` if template is out of range", () -> {
            int[] wrong = {-1, 4, 256, Integer.MAX_VALUE, Integer.MIN_VALUE};
            for (int template : wrong) {
                twins.refused("templateAge " + template, ARGUMENT, x -> x.templateAge(template));
            }
        });
        edges.promise(45, "Returns 0 to 2^32 - 1; NONE if no message has been received since the collector started.", () -> {
            twins.refusedAfter(FlowExporter::new, "at first", -1L, FlowExporter::expected);
            FlowExporter x = new FlowExporter();
            Check.receive(x, Check.bytes("000a"));
            check.due("after a malformed one", x.expected(), -1);
            put(x, 0, 0, 0, "");
            check.due("the least", x.expected(), 0);
            FlowExporter y = new FlowExporter();
            put(y, 0, -1, 0, "");
            check.due("the greatest", y.expected(), (1L << 32) - 1);
            y.restartCollector();
            check.due("restarted", y.expected(), -1);
        });
    }

    // ---- promises 46 and 47 ----

    private static void counters() {
        edges.promise(46, "- `counter`: 0 lost, 1 late, 2 duplicates, 3 undecodable, 4 malformed, 5 restarts, 6 overflow,"
            + " 7 records decoded, 8 messages received (all of them)", () -> {
                FlowExporter x = new FlowExporter();
                StringBuilder sources = new StringBuilder();
                for (int k = 0; k < 26; k++) {
                    sources.append(String.format("%02x", k));
                }
                put(x, 1, 0, 0, SOURCE + "0100 001e" + sources);
                put(x, 1, 5, 1, "");
                put(x, 1, 4, 1, "");
                put(x, 1, 3, 1, "");
                for (int k = 0; k < 3; k++) {
                    put(x, 1, 3, 1, "");
                }
                put(x, 1, 6, 0, "0101 0004 0101 0004 0101 0004 0101 0004");
                for (int k = 0; k < 5; k++) {
                    Check.receive(x, Check.bytes("00"));
                }
                for (int k = 0; k < 6; k++) {
                    put(x, 2 + k, 0, 1, "");
                }
                long[] want = {3, 2, 3, 4, 5, 6, 2, 26, 19};
                for (int k = 0; k < 9; k++) {
                    check.due("counter " + k, x.counter(k), want[k]);
                    check.due("counter " + k + " at first", new FlowExporter().counter(k), 0);
                }
            });
        edges.promise(46, "Throws `IllegalArgumentException` if counter is none of these", () -> {
            int[] wrong = {-1, 9, 10, Integer.MAX_VALUE, Integer.MIN_VALUE};
            for (int counter : wrong) {
                twins.refused("counter " + counter, ARGUMENT, x -> x.counter(counter));
            }
        });
        edges.promise(47, "Returns the part of the records that is lost: lost divided by the sum of lost and the records"
            + " decoded.", () -> {
                FlowExporter x = new FlowExporter();
                put(x, 0, 0, 0, SOURCE + "0100 0006 0102");
                check.dueDouble("none lost", x.lossRate(), 0.0);
                put(x, 0, 1, 0, "");
                check.dueDouble("one of three", x.lossRate(), 1.0 / 3.0);
                FlowExporter y = new FlowExporter();
                put(y, 0, 0, 0, "");
                put(y, 0, Integer.MAX_VALUE, 0, "");
                check.dueDouble("all of them", y.lossRate(), 1.0);
                put(y, 0, -2, 0, SOURCE + "0100 0005 01");
                check.dueDouble("more than an int", y.lossRate(), (2.0 * Integer.MAX_VALUE) / (2.0 * Integer.MAX_VALUE + 1));
            });
        edges.promise(47, "Throws `ArithmeticException` if this sum is 0", () -> {
            twins.refusedAfter(FlowExporter::new, "at first", ArithmeticException.class, FlowExporter::lossRate);
            FlowExporter x = new FlowExporter();
            put(x, 0, 0, 0, "");
            put(x, 0, 5, 0, "");
            put(x, 0, 1, 5, "");
            check.dueObject("lost, and found again", State.answer(x::lossRate), ArithmeticException.class);
            put(x, 1, 2, 0, SOURCE + "0100 0005 01");
            check.dueDouble("one record", x.lossRate(), 0.0);
        });
    }
}
