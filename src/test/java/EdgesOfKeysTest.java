import java.util.function.BiFunction;

/** The boundary cases of the sums of COLLECTOR and of promises 49 to 60, sentence by sentence. */
public final class EdgesOfKeysTest {
    private static final Edges edges = new Edges();
    private static final Check check = edges.check;
    private static final Twins twins = edges.twins;
    private static final Class<?> ARGUMENT = IllegalArgumentException.class;
    private static final Class<?> INDEX = IndexOutOfBoundsException.class;
    private static final int[] NO_KEY = {-1, 24, 25, Integer.MAX_VALUE, Integer.MIN_VALUE};
    private static final int[] NO_WHAT = {-1, 2, Integer.MAX_VALUE, Integer.MIN_VALUE};
    /** Template 0: source, packets, bytes, rate. */
    private static final String TEMPLATE = "0002 0018 0100 0004 0000 0001 0004 0004 0005 0008 0008 0004";

    public static void main(String[] args) {
        sums();
        variances();
        bounds();
        keys();
        values(52, "Returns a raw sum of a key.", FlowExporter::raw);
        values(53, "Returns an estimate of a key.", FlowExporter::estimate);
        values(54, "Returns a lower bound of a key.", FlowExporter::lower);
        values(55, "Returns an upper bound of a key.", FlowExporter::upper);
        truths();
        covered();
        totals();
        ranks();
        edges.finish(49, 50, 51, 52, 53, 54, 55, 56, 57, 58, 59, 60);
    }

    private static String record(int source, long packets, long bytes, int rate) {
        return String.format("%02x%08x%016x%08x", source, (int) packets, bytes, Float.floatToIntBits(1f / rate));
    }

    /** The collector receives these records; each time must be another one. */
    private static void put(FlowExporter x, int time, String... records) {
        String all = String.join("", records);
        int decoded = Check.receive(x, Check.framed(time, 0, 0,
            TEMPLATE + String.format("0100%04x", 4 + all.length() / 2) + all));
        check.due("records decoded", decoded, records.length);
    }

    private static FlowExporter with(String... records) {
        FlowExporter x = new FlowExporter();
        put(x, 0, records);
        return x;
    }

    // ---- sums and bounds ----

    private static void sums() {
        edges.terms("the raw sum; the estimate, the sum of N * value (as a long);", () -> {
            FlowExporter x = with(record(1, 0, 0, 1), record(2, 0xFFFFFFFFL, Long.MAX_VALUE, 1024),
                record(3, 1, Long.MIN_VALUE, 2), record(4, 1, -1, 1024));
            check.due("nothing", x.raw(0, 0) + x.raw(0, 1) + x.estimate(0, 0) + x.estimate(0, 1), 0);
            check.due("the most packets", x.raw(1, 0), (1L << 32) - 1);
            check.due("their estimate", x.estimate(1, 0), 1024 * ((1L << 32) - 1));
            check.due("the most bytes", x.raw(1, 1), Long.MAX_VALUE);
            check.due("their estimate wraps around", x.estimate(1, 1), -1024);
            check.due("the least bytes", x.raw(2, 1), Long.MIN_VALUE);
            check.due("their estimate wraps around", x.estimate(2, 1), 0);
            check.due("negative bytes", x.estimate(3, 1), -1024);
            put(x, 1, record(2, 1, 1, 1));
            check.due("one byte more wraps around", x.raw(1, 1), Long.MIN_VALUE);
            check.due("and its estimate goes on", x.estimate(1, 1), -1023);
            check.due("packets more than 32 bits", x.raw(1, 0), 1L << 32);
            check.due("estimates of two rates", x.estimate(1, 0), 1024 * ((1L << 32) - 1) + 1);
        });
    }

    private static void variances() {
        edges.terms("and the variance, the double sum, in the order of the records, beginning with 0, of N * (N - 1) *"
            + " packets for packets, and of N * (N - 1) * bytes * bytes / packets for bytes (0 if packets is 0);", () -> {
                FlowExporter one = with(record(1, 100, 1000, 1));
                check.dueDouble("N is 1, packets", one.totalMargin(0), 0.0);
                check.dueDouble("N is 1, bytes", one.totalMargin(1), 0.0);
                FlowExporter none = with(record(1, 0, 1000, 1024));
                check.dueDouble("packets are 0", none.totalMargin(0), 0.0);
                check.dueDouble("bytes of no packets", none.totalMargin(1), 0.0);
                FlowExporter bytes = with(record(1, 5, 0, 1024));
                check.dueDouble("packets without bytes", bytes.totalMargin(0), 1.96 * Math.sqrt(1024.0 * 1023.0 * 5.0));
                check.dueDouble("bytes are 0", bytes.totalMargin(1), 0.0);
                FlowExporter most = with(record(1, 0xFFFFFFFFL, Long.MIN_VALUE, 1024));
                double least = (double) Long.MIN_VALUE;
                check.dueDouble("the most packets", most.totalMargin(0), 1.96 * Math.sqrt(1024.0 * 1023.0 * 4294967295.0));
                check.dueDouble("the least bytes", most.totalMargin(1),
                    1.96 * Math.sqrt(1024.0 * 1023.0 * least * least / 4294967295.0));
                FlowExporter greatest = with(record(1, 1, Long.MAX_VALUE, 1024));
                double great = (double) Long.MAX_VALUE;
                check.dueDouble("the greatest variance", greatest.totalMargin(1),
                    1.96 * Math.sqrt(1024.0 * 1023.0 * great * great));
                // The least variance above 0: 2 * 1 * 1 * 1 / (2^32 - 1).
                FlowExporter small = with(record(1, 0xFFFFFFFFL, 1, 2));
                check.dueDouble("the least variance", small.totalMargin(1), 1.96 * Math.sqrt(2.0 / 4294967295.0));
                // In the order of the records: a small one is lost behind a great one, two before it are not.
                double big = 1024.0 * 1023.0 * great * great;
                double part = 2.0 * 3.0e14 * 3.0e14;
                String[] parts = new String[20];
                double after = big;
                double before = 0;
                for (int k = 0; k < 20; k++) {
                    parts[k] = record(1, 1, 300000000000000L, 2);
                    after += part;
                    before += part;
                }
                FlowExporter first = with(record(1, 1, Long.MAX_VALUE, 1024));
                put(first, 1, parts);
                FlowExporter last = with(parts);
                put(last, 1, record(1, 1, Long.MAX_VALUE, 1024));
                check.dueDouble("the great one first", first.totalMargin(1), 1.96 * Math.sqrt(after));
                check.dueDouble("the great one last", last.totalMargin(1), 1.96 * Math.sqrt(before + big));
            });
        edges.terms("these products are calculated from left to right as doubles.", () -> {
            long[] counts = {3, 7, 333, 1000003, 0xFFFFFFFFL};
            long[] values = {1, 3, 65535, 1234567890123L, Long.MAX_VALUE, Long.MIN_VALUE, -7};
            int[] rates = {2, 3, 7, 1000, 1023};
            for (long packets : counts) {
                for (long bytes : values) {
                    for (int n : rates) {
                        FlowExporter x = with(record(1, packets, bytes, n));
                        double want = (double) n * (n - 1) * bytes * bytes / packets;
                        check.dueDouble("margin", x.totalMargin(1), 1.96 * Math.sqrt(want));
                    }
                }
            }
        });
    }

    private static void bounds() {
        edges.terms("The margin is 1.96 * Math.sqrt(variance); the lower bound is the greater one of the raw sum and"
            + " estimate - margin, the upper bound is estimate + margin.", () -> {
                for (int n = 2; n <= 1024; n += 73) {
                    for (int packets = 0; packets < 40; packets++) {
                        FlowExporter x = with(record(1, packets, 10L * packets, n));
                        double margin = 1.96 * Math.sqrt((double) n * (n - 1) * packets);
                        double bound = (double) n * packets - margin;
                        String name = packets + " packets of " + n;
                        check.dueDouble(name + ", lower", x.lower(0, 0), bound > packets ? bound : packets);
                        check.dueDouble(name + ", upper", x.upper(0, 0), (double) n * packets + margin);
                    }
                }
                // Without a margin the raw sum and both bounds are the same.
                FlowExporter equal = with(record(1, 98, 980, 1));
                check.dueDouble("lower without a margin", equal.lower(0, 0), 98.0);
                check.dueDouble("upper without a margin", equal.upper(0, 0), 98.0);
                FlowExporter nothing = with(record(1, 0, 0, 1024));
                check.dueDouble("lower of nothing", nothing.lower(0, 1), 0.0);
                check.dueDouble("upper of nothing", nothing.upper(0, 1), 0.0);
                // Beyond 2^53 a long becomes the nearest double.
                FlowExporter great = with(record(1, 1, (1L << 53) + 1, 1));
                check.dueDouble("lower beyond 2^53", great.lower(0, 1), (double) ((1L << 53) + 1));
                FlowExporter negative = with(record(1, 1, -1000, 2));
                check.dueDouble("lower of negative bytes", negative.lower(0, 1), -1000.0);
                check.dueDouble("upper of negative bytes", negative.upper(0, 1), -2000 + 1.96 * Math.sqrt(2000000.0));
            });
    }

    // ---- promises 49 to 51 ----

    private static FlowExporter full() {
        FlowExporter x = Twins.full();
        x.truncateInput(0);
        return x;
    }

    private static void keys() {
        edges.promise(49, "Returns 0 to 24.", () -> {
            FlowExporter x = new FlowExporter();
            check.due("at first", x.keyCount(), 0);
            for (int k = 0; k < 27; k++) {
                put(x, k, record(k, 1, 1, 1));
                check.due("after " + (k + 1), x.keyCount(), Math.min(24, k + 1));
            }
        });
        edges.promise(50, "- `index`: index of a key, from 0", () -> {
            FlowExporter x = full();
            check.due("the first", x.key(0, 0), 0);
            check.due("the last", x.key(23, 0), 23);
        });
        edges.promise(50, "- `field`: 0 to 3", () -> {
            FlowExporter x = new FlowExporter();
            x.observe(255, 254, 65535, 253, 1);
            x.observe(0, 0, 0, 0, 1);
            x.flush();
            x.deliverAll();
            int[] want = {255, 254, 65535, 253};
            for (int field = 0; field < 4; field++) {
                check.due("the most of " + field, x.key(0, field), want[field]);
                check.due("the least of " + field, x.key(1, field), 0);
            }
        });
        edges.promise(50, "Throws `IndexOutOfBoundsException` if there is no such key", () -> {
            for (int index : NO_KEY) {
                twins.refused("key " + index, INDEX, x -> x.key(index, 0));
                twins.refused("key " + index + ", a wrong field", INDEX, x -> x.key(index, 4));
            }
            twins.refusedAfter(FlowExporter::new, "key 0 of none", INDEX, x -> x.key(0, 0));
            int count = Twins.busy().keyCount();
            twins.refusedAfter(Twins::busy, "one behind the last", INDEX, x -> x.key(count, 0));
        });
        edges.promise(50, "Throws `IllegalArgumentException` if field is out of range", () -> {
            int[] wrong = {-1, 4, 5, Integer.MAX_VALUE, Integer.MIN_VALUE};
            for (int field : wrong) {
                twins.refusedAfter(Twins::busy, "key 0 " + field, ARGUMENT, x -> x.key(0, field));
                twins.refusedAfter(Twins::full, "key 23 " + field, ARGUMENT, x -> x.key(23, field));
            }
        });
        edges.promise(51, "Returns its index; NONE if the collector does not know it.", () -> {
            FlowExporter x = full();
            check.due("the first", x.find(0, 200, 65535, 6), 0);
            check.due("the last", x.find(23, 200, 65535, 6), 23);
            check.due("the 25th, which found no room", x.find(24, 200, 65535, 6), -1);
            int[][] none = {{24, 200, 65535, 6}, {0, 201, 65535, 6}, {0, 200, 65534, 6}, {0, 200, 65535, 7},
                {-1, 200, 65535, 6}, {256, 200, 65535, 6}, {0, 456, 65535, 6}, {0, -56, 65535, 6}, {0, 200, -1, 6},
                {0, 200, 131071, 6}, {0, 200, 65535, 262}, {0, 200, 65535, -250}, {-1, -1, -1, -1},
                {Integer.MAX_VALUE, Integer.MAX_VALUE, Integer.MAX_VALUE, Integer.MAX_VALUE},
                {Integer.MIN_VALUE, Integer.MIN_VALUE, Integer.MIN_VALUE, Integer.MIN_VALUE}};
            for (int[] key : none) {
                twins.refused("find " + java.util.Arrays.toString(key), -1, y -> y.find(key[0], key[1], key[2], key[3]));
            }
            twins.refusedAfter(FlowExporter::new, "find of none", -1, y -> y.find(0, 0, 0, 0));
            // A part that is too great does not run over into the next one.
            FlowExporter z = with(record(1, 1, 1, 1));
            check.due("256 more of the destination", z.find(0, 256, 0, 0), -1);
            check.due("65536 more of the port", z.find(1, -1, 65536, 0), -1);
            check.due("itself", z.find(1, 0, 0, 0), 0);
        });
    }

    // ---- promises 52 to 55 ----

    private static void values(int promise, String title, BiFunction<FlowExporter, Integer, Number> ofPackets,
            BiFunction<FlowExporter, Integer, Number> ofBytes, Value call) {
        edges.promise(promise, title, () -> {
            FlowExporter x = full();
            check.dueObject("the first key's packets", call.of(x, 0, 0), ofPackets.apply(x, 1));
            check.dueObject("the first key's bytes", call.of(x, 0, 1), ofBytes.apply(x, 1));
        });
        edges.promise(promise, "- `index`: index of a key, from 0", () -> {
            FlowExporter x = full();
            check.dueObject("the last key's packets", call.of(x, 23, 0), ofPackets.apply(x, 24));
            check.dueObject("the last key's bytes", call.of(x, 23, 1), ofBytes.apply(x, 24));
        });
    }

    /** One of raw, estimate, lower and upper. */
    private interface Value {
        Number of(FlowExporter x, int index, int what);
    }

    /** The full object has k + 1 packets of 65535 bytes of key k, with the rate 1: there is no margin. */
    private static void values(int promise, String title, Value call) {
        boolean whole = promise < 54;
        values(promise, title, (x, count) -> whole ? (Number) (long) count : (Number) (double) count,
            (x, count) -> whole ? (Number) (count * 65535L) : (Number) (count * 65535.0), call);
        edges.promise(promise, "- `what`: 0 packets, 1 bytes", () -> {
            FlowExporter x = with(record(1, 3, 100, 1));
            check.dueObject("packets", call.of(x, 0, 0), whole ? (Number) 3L : (Number) 3.0);
            check.dueObject("bytes", call.of(x, 0, 1), whole ? (Number) 100L : (Number) 100.0);
        });
        edges.promise(promise, "Throws `IndexOutOfBoundsException` if there is no such key", () -> {
            for (int index : NO_KEY) {
                twins.refused("index " + index, INDEX, x -> call.of(x, index, 0));
                twins.refused("index " + index + ", wrong twice", INDEX, x -> call.of(x, index, 2));
            }
            twins.refusedAfter(FlowExporter::new, "index 0 of none", INDEX, x -> call.of(x, 0, 0));
            int count = Twins.busy().keyCount();
            twins.refusedAfter(Twins::busy, "one behind the last", INDEX, x -> call.of(x, count, 1));
        });
        edges.promise(promise, "Throws `IllegalArgumentException` if what is not 0 or 1", () -> {
            for (int what : NO_WHAT) {
                twins.refusedAfter(Twins::busy, "what " + what, ARGUMENT, x -> call.of(x, 0, what));
                twins.refusedAfter(Twins::full, "what " + what, ARGUMENT, x -> call.of(x, 23, what));
            }
        });
    }

    private static void wrongWhat(int promise, BiFunction<FlowExporter, Integer, Object> call) {
        edges.promise(promise, "Throws `IllegalArgumentException` if what is not 0 or 1", () -> {
            for (int what : NO_WHAT) {
                twins.refused("what " + what, ARGUMENT, x -> call.apply(x, what));
            }
        });
    }

    // ---- promise 56 ----

    private static void truths() {
        edges.promise(56, "Only the first 24 different keys that are observed are remembered.", () -> {
            FlowExporter x = Check.loaded("sampling 1024;");
            for (int k = 0; k < 26; k++) {
                x.observe(k, 1, 1, 1, 100 + k);
                x.observe(0, 1, 1, 1, 1);
            }
            for (int k = 1; k < 26; k++) {
                check.due("packets of " + k, x.truth(k, 1, 1, 1, 0), k < 24 ? 1 : 0);
                check.due("bytes of " + k, x.truth(k, 1, 1, 1, 1), k < 24 ? 100 + k : 0);
            }
            check.due("the first one goes on", x.truth(0, 1, 1, 1, 0), 27);
            x.observeMany(23, 1, 1, 1, 65535, 200);
            check.due("the last one goes on", x.truth(23, 1, 1, 1, 1), 123 + 200 * 65535);
            x.observeMany(24, 1, 1, 1, 65535, 200);
            check.due("one more stays away", x.truth(24, 1, 1, 1, 1), 0);
        });
        edges.promise(56, "Returns what was really observed of a key since the last load().", () -> {
            FlowExporter x = Check.loaded("sampling 1024;");
            x.observe(1, 2, 3, 4, 5);
            x.restartExporter();
            x.restartCollector();
            check.due("restarts do not matter", x.truth(1, 2, 3, 4, 1), 5);
            Check.load(x, "$");
            check.due("a text with an error does not", x.truth(1, 2, 3, 4, 1), 5);
            Check.load(x, "");
            check.due("a load does", x.truth(1, 2, 3, 4, 1), 0);
            for (int k = 0; k < 24; k++) {
                x.observe(k, 9, 9, 9, 1);
            }
            check.due("24 keys again", x.truth(23, 9, 9, 9, 0), 1);
            // More bytes than 32 bits hold.
            FlowExporter y = new FlowExporter();
            for (int k = 0; k < 330; k++) {
                y.observeMany(1, 1, 1, 1, 65535, 200);
            }
            check.due("without modulo", y.truth(1, 1, 1, 1, 1), 330L * 200 * 65535);
        });
        edges.promise(56, "- `what`: 0 packets, 1 bytes", () -> {
            FlowExporter x = new FlowExporter();
            x.observeMany(255, 255, 65535, 255, 7, 3);
            check.due("packets", x.truth(255, 255, 65535, 255, 0), 3);
            check.due("bytes", x.truth(255, 255, 65535, 255, 1), 21);
        });
        edges.promise(56, "Returns the number of packets or bytes; 0 if the key is not remembered.", () -> {
            FlowExporter x = full();
            check.due("the last that is remembered", x.truth(23, 200, 65535, 6, 0), 24);
            int[][] none = {{24, 200, 65535, 6}, {23, 201, 65535, 6}, {23, 200, 65534, 6}, {23, 200, 65535, 7},
                {279, 200, 65535, 6}, {-1, 0, 0, 0}, {23, 456, 65535, 6}, {23, 200, 131071, 6}, {23, 200, 65535, 262},
                {-1, -1, -1, -1}, {Integer.MAX_VALUE, 0, 0, 0}, {0, 0, 0, Integer.MIN_VALUE}, {0, 0, 0, 0}};
            for (int[] key : none) {
                for (int what = 0; what < 2; what++) {
                    int one = what;
                    twins.refused("truth " + java.util.Arrays.toString(key), 0L,
                        y -> y.truth(key[0], key[1], key[2], key[3], one));
                }
            }
        });
        wrongWhat(56, (x, what) -> x.truth(0, 200, 65535, 6, what));
        edges.promise(56, "Throws `IllegalArgumentException` if what is not 0 or 1", () -> {
            twins.refused("a key that is none, too", ARGUMENT, x -> x.truth(-1, -1, -1, -1, 2));
        });
    }

    // ---- promise 57 ----

    private static int coveredWith(int truth, String record) {
        FlowExporter x = new FlowExporter();
        for (int left = truth; left > 0; left -= 200) {
            x.observeMany(1, 0, 0, 0, 1, Math.min(left, 200));
        }
        put(x, 0, record);
        return x.covered(0);
    }

    private static void covered() {
        edges.promise(57, "Counts the keys of the collector for which the truth lies between the lower and the upper bound"
            + " (both included).", () -> {
                // 1250 packets with N = 2: 2500 +- 1.96 * 50, which is 98.
                FlowExporter x = with(record(1, 1250, 1250, 2));
                check.dueDouble("lower", x.lower(0, 0), 2402.0);
                check.dueDouble("upper", x.upper(0, 0), 2598.0);
                int[] truths = {2401, 2402, 2403, 2500, 2597, 2598, 2599};
                int[] want = {0, 1, 1, 1, 1, 1, 0};
                for (int k = 0; k < truths.length; k++) {
                    check.due("truth " + truths[k], coveredWith(truths[k], record(1, 1250, 1250, 2)), want[k]);
                }
                // No margin: both bounds are the estimate.
                for (int truth = 4; truth <= 6; truth++) {
                    check.due("truth " + truth + " of 5", coveredWith(truth, record(1, 5, 5, 1)), truth == 5 ? 1 : 0);
                }
                // The raw sum is the lower bound.
                for (int truth = 0; truth <= 6; truth++) {
                    check.due("truth " + truth + ", raw 1", coveredWith(truth, record(1, 1, 1, 2)),
                        truth >= 1 && truth <= 4 ? 1 : 0);
                }
                check.due("a key that was never observed", with(record(1, 0, 0, 9)).covered(0), 1);
            });
        edges.promise(57, "- `what`: 0 packets, 1 bytes", () -> {
            FlowExporter x = new FlowExporter();
            x.observe(1, 0, 0, 0, 10);
            x.observe(2, 0, 0, 0, 10);
            put(x, 0, record(1, 1, 11, 1), record(2, 1, 10, 1));
            check.due("packets", x.covered(0), 2);
            check.due("bytes", x.covered(1), 1);
        });
        edges.promise(57, "Returns the number of keys.", () -> {
            check.due("no keys", new FlowExporter().covered(0), 0);
            check.due("all 24, packets", full().covered(0), 24);
            check.due("all 24, bytes", full().covered(1), 24);
        });
        wrongWhat(57, FlowExporter::covered);
    }

    // ---- promises 58 and 59 ----

    private static void totals() {
        edges.promise(58, "Returns the sum of the estimates of all keys.", () -> {
            check.due("no keys", new FlowExporter().totalEstimate(0), 0);
            check.due("no keys, bytes", new FlowExporter().totalEstimate(1), 0);
            check.due("24 keys", full().totalEstimate(0), 300);
            check.due("24 keys, bytes", full().totalEstimate(1), 300L * 65535);
            FlowExporter x = with(record(1, 1, Long.MAX_VALUE, 1), record(2, 1, 1, 1));
            check.due("it wraps around", x.totalEstimate(1), Long.MIN_VALUE);
        });
        edges.promise(58, "- `what`: 0 packets, 1 bytes", () -> {
            FlowExporter x = with(record(1, 3, 100, 2), record(2, 1, 10, 3));
            check.due("packets", x.totalEstimate(0), 9);
            check.due("bytes", x.totalEstimate(1), 230);
        });
        wrongWhat(58, FlowExporter::totalEstimate);
        edges.promise(59, "Returns the margin of this sum: 1.96 * Math.sqrt of the sum of the variances of all keys, in the"
            + " order of the keys, beginning with 0.", () -> {
                check.dueDouble("no keys", new FlowExporter().totalMargin(0), 0.0);
                check.dueDouble("no keys, bytes", new FlowExporter().totalMargin(1), 0.0);
                check.dueDouble("24 keys without a margin", full().totalMargin(0), 0.0);
                // A great variance first swallows the small ones behind it, a great one last does not.
                double great = 1024.0 * 1023.0 * Long.MAX_VALUE * Long.MAX_VALUE;
                double small = 2.0 * 3.0e14 * 3.0e14;
                String[] records = new String[24];
                double sum = great;
                double other = 0;
                for (int k = 1; k < 24; k++) {
                    records[k] = record(k, 1, 300000000000000L, 2);
                    sum += small;
                    other += small;
                }
                records[0] = record(0, 1, Long.MAX_VALUE, 1024);
                check.dueDouble("the great one first", with(records).totalMargin(1), 1.96 * Math.sqrt(sum));
                String first = records[0];
                System.arraycopy(records, 1, records, 0, 23);
                records[23] = first;
                check.dueDouble("the great one last", with(records).totalMargin(1), 1.96 * Math.sqrt(other + great));
            });
        edges.promise(59, "- `what`: 0 packets, 1 bytes", () -> {
            FlowExporter x = with(record(1, 3, 100, 2), record(2, 1, 10, 3));
            check.dueDouble("packets", x.totalMargin(0), 1.96 * Math.sqrt(2.0 * 3 + 6.0 * 1));
            check.dueDouble("bytes", x.totalMargin(1), 1.96 * Math.sqrt(2.0 * 100 * 100 / 3 + 6.0 * 10 * 10));
        });
        wrongWhat(59, FlowExporter::totalMargin);
    }

    // ---- promise 60 ----

    private static void ranks() {
        edges.promise(60, "Returns the key with a place by estimate, the greatest first; on a tie the lower index first.",
            () -> {
                FlowExporter x = with(record(1, 5, -4, 1), record(2, 3, 9, 2), record(3, 6, 18, 1), record(4, 1, 0, 1));
                int[][] want = {{1, 2, 0, 3}, {1, 2, 3, 0}};
                for (int what = 0; what < 2; what++) {
                    for (int place = 0; place < 4; place++) {
                        check.due("place " + place + " of " + what, x.ranked(place, what), want[what][place]);
                    }
                }
                FlowExporter great = with(record(1, 1, Long.MIN_VALUE, 1), record(2, 1, Long.MAX_VALUE, 1),
                    record(3, 1, -1, 1));
                int[] order = {1, 2, 0};
                for (int place = 0; place < 3; place++) {
                    check.due("far apart " + place, great.ranked(place, 1), order[place]);
                    check.due("all the same " + place, great.ranked(place, 0), place);
                }
            });
        edges.promise(60, "- `place`: from 0", () -> {
            FlowExporter x = full();
            for (int place = 0; place < 24; place++) {
                check.due("place " + place, x.ranked(place, 0), 23 - place);
            }
        });
        edges.promise(60, "- `what`: 0 packets, 1 bytes", () -> {
            FlowExporter x = with(record(1, 3, 10, 1), record(2, 1, 100, 1));
            check.due("packets", x.ranked(0, 0), 0);
            check.due("bytes", x.ranked(0, 1), 1);
        });
        edges.promise(60, "Returns the index of the key; NONE if there is no such place.", () -> {
            int[] wrong = {-1, 24, 25, Integer.MAX_VALUE, Integer.MIN_VALUE};
            for (int place : wrong) {
                twins.refused("place " + place, -1, x -> x.ranked(place, 0));
                twins.refused("place " + place + " by bytes", -1, x -> x.ranked(place, 1));
            }
            twins.refusedAfter(FlowExporter::new, "place 0 of none", -1, x -> x.ranked(0, 0));
            int count = Twins.busy().keyCount();
            twins.refusedAfter(Twins::busy, "one behind the last", -1, x -> x.ranked(count, 0));
        });
        wrongWhat(60, (x, what) -> x.ranked(-1, what));
    }
}
