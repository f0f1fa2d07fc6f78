import java.util.Random;

/** Promises 49 to 60: keys, sums, estimates, intervals, the truth and ranks. */
public final class EstimateTest {
    /** Template 0: source, packets, bytes, rate. */
    private static final String TEMPLATE = "0002 0018 0100 0004 0000 0001 0004 0004 0005 0008 0008 0004";
    private static final Check check = new Check();

    public static void main(String[] args) {
        keys();
        sums();
        intervals();
        rates();
        assumedRate();
        roots();
        truths();
        covered();
        totals();
        ranks();
        wrongArguments();
        check.finish();
    }

    private static String record(int source, int packets, long bytes, int bits) {
        return String.format("%02x%08x%016x%08x", source, packets, bytes, bits);
    }

    private static int put(FlowExporter x, int time, String... records) {
        String all = String.join("", records);
        return Check.receive(x, Check.framed(time, 0, 0,
            TEMPLATE + String.format("0100%04x", 4 + all.length() / 2) + all));
    }

    private static int bits(int n) {
        return Float.floatToIntBits(1f / n);
    }

    private static void keys() {
        FlowExporter x = new FlowExporter();
        x.observe(1, 2, 300, 4, 1);
        x.observe(255, 254, 65535, 253, 1);
        x.flush();
        x.deliverAll();
        check.due("keyCount", x.keyCount(), 2);
        int[][] want = {{1, 2, 300, 4}, {255, 254, 65535, 253}};
        for (int k = 0; k < 2; k++) {
            for (int field = 0; field < 4; field++) {
                check.due("key " + k + " " + field, x.key(k, field), want[k][field]);
            }
            check.due("find " + k, x.find(want[k][0], want[k][1], want[k][2], want[k][3]), k);
        }
        check.due("find another source", x.find(2, 2, 300, 4), -1);
        check.due("find another destination", x.find(1, 3, 300, 4), -1);
        check.due("find another port", x.find(1, 2, 301, 4), -1);
        check.due("find another protocol", x.find(1, 2, 300, 5), -1);
        check.due("find what is too great", x.find(1 + 256, 2, 300, 4), -1);
        check.due("find what is too great, next part", x.find(1, 1, 300 + 65536, 4), -1);
        check.due("find what is too great, last part", x.find(1, 2, 299, 4 + 256), -1);
        check.due("find what is negative", x.find(-1, -1, -1, -1), -1);
    }

    private static void sums() {
        FlowExporter x = new FlowExporter();
        check.due("put", put(x, 0, record(1, 3, 100, bits(1)), record(2, 5, 7, bits(10)), record(1, 4, 50, bits(2))), 3);
        check.due("raw packets", x.raw(0, 0), 7);
        check.due("raw bytes", x.raw(0, 1), 150);
        check.due("estimate packets", x.estimate(0, 0), 11);
        check.due("estimate bytes", x.estimate(0, 1), 200);
        check.due("raw of 2", x.raw(1, 0), 5);
        check.due("estimate of 2", x.estimate(1, 0), 50);
        check.due("estimate bytes of 2", x.estimate(1, 1), 70);
        put(x, 1, record(3, -1, Long.MAX_VALUE, bits(1024)));
        check.due("unsigned packets", x.raw(2, 0), (1L << 32) - 1);
        check.due("their estimate", x.estimate(2, 0), 1024 * ((1L << 32) - 1));
        check.due("great bytes", x.raw(2, 1), Long.MAX_VALUE);
        check.due("their estimate, as a long", x.estimate(2, 1), 1024 * Long.MAX_VALUE);
        put(x, 2, record(3, 1, Long.MAX_VALUE, bits(1)));
        check.due("their sum, as a long", x.raw(2, 1), -2);
    }

    private static void intervals() {
        FlowExporter x = new FlowExporter();
        put(x, 0, record(1, 100, 5000, bits(10)), record(1, 7, 333, bits(3)), record(1, 0, 9, bits(5)));
        double packets = 0 + 10.0 * 9.0 * 100.0 + 3.0 * 2.0 * 7.0;
        double bytes = 10.0 * 9.0 * 5000.0 * 5000.0 / 100.0 + 3.0 * 2.0 * 333.0 * 333.0 / 7.0;
        double margin = 1.96 * Math.sqrt(packets);
        double byteMargin = 1.96 * Math.sqrt(bytes);
        check.dueDouble("lower packets", x.lower(0, 0), 1021 - margin);
        check.dueDouble("upper packets", x.upper(0, 0), 1021 + margin);
        check.dueDouble("lower bytes", x.lower(0, 1), 51044 - byteMargin);
        check.dueDouble("upper bytes", x.upper(0, 1), 51044 + byteMargin);
        // The raw sum is the greater one.
        put(x, 1, record(2, 1, 10, bits(2)));
        check.dueDouble("lower is the raw sum", x.lower(1, 0), 1.0);
        check.dueDouble("lower bytes is the raw sum", x.lower(1, 1), 10.0);
        check.dueDouble("upper of it", x.upper(1, 0), 2 + 1.96 * Math.sqrt(2.0));
        // With the rate 1 there is no margin.
        put(x, 2, record(3, 9, 90, bits(1)));
        check.dueDouble("lower without margin", x.lower(2, 0), 9.0);
        check.dueDouble("upper without margin", x.upper(2, 1), 90.0);
        // Packets of 0: bytes have no variance.
        put(x, 3, record(4, 0, 90, bits(4)));
        check.dueDouble("lower of no packets", x.lower(3, 1), 360.0);
        check.dueDouble("upper of no packets", x.upper(3, 1), 360.0);
        check.dueDouble("packets of no packets", x.upper(3, 0), 0.0);
        // Negative bytes.
        put(x, 4, record(5, 2, -100, bits(3)));
        double negative = 1.96 * Math.sqrt(3.0 * 2.0 * -100.0 * -100.0 / 2.0);
        check.dueDouble("lower of negative bytes", x.lower(4, 1), -100.0);
        check.dueDouble("upper of negative bytes", x.upper(4, 1), -300 + negative);
    }

    private static int rateOf(FlowExporter x, int time, int bits) {
        // The estimate of a single packet of a key is its rate.
        x.restartCollector();
        long before = x.keyCount() == 0 ? 0 : x.estimate(0, 0);
        put(x, time, record(1, 1, 0, bits));
        return (int) (x.estimate(0, 0) - before);
    }

    private static int wantedRate(int bits, int assumed) {
        float p = Float.intBitsToFloat(bits);
        return p > 0 && p <= 1 ? Math.min(1024, (int) (1f / p + 0.5f)) : assumed;
    }

    private static void rates() {
        FlowExporter x = Check.loaded("assume 77;");
        for (int n = 1; n <= 1024; n++) {
            check.due("rate " + n, rateOf(x, n, bits(n)), n);
        }
        int[] edges = {0, 1, 2, 0x7fffff, 0x800000, 0x3f800000, 0x3f800001, 0x3f7fffff, 0x3a800000, 0x3a7fffff,
            0x3a800001, 0x7f800000, 0x7f800001, 0x7fc00000, 0xbf800000, 0x80000000, 0x80000001, -1, 0x40000000,
            0x3f2aaaaa, 0x3f2aaaab, 0x3f2aaaac, 0x3a7fe000, 0x3a802008, 0x3a800800, 0x3b000000};
        for (int bits : edges) {
            check.due("rate of the bits " + Integer.toHexString(bits), rateOf(x, 0, bits), wantedRate(bits, 77));
        }
        Random random = new Random(5);
        for (int k = 0; k < 20000; k++) {
            int bits = k % 4 == 0 ? random.nextInt() : 0x3a000000 + random.nextInt(0x5800100);
            check.due("rate of the bits " + Integer.toHexString(bits), rateOf(x, 0, bits), wantedRate(bits, 77));
        }
        // Just around n + 0.5, where the rounding turns.
        for (int n = 1; n < 1024; n++) {
            int half = Float.floatToIntBits(1f / (n + 0.5f));
            for (int bits = half - 3; bits <= half + 3; bits++) {
                check.due("rate of the bits " + Integer.toHexString(bits), rateOf(x, 0, bits), wantedRate(bits, 77));
            }
        }
    }

    private static void assumedRate() {
        FlowExporter x = Check.loaded("template source packets;assume 50;sampling 7;");
        x.setSeed(3);
        int sampled = x.observeMany(1, 0, 0, 0, 10, 200);
        x.flush();
        x.deliverAll();
        check.due("raw", x.raw(0, 0), sampled);
        check.due("estimate by the assumed rate", x.estimate(0, 0), 50L * sampled);
        check.due("bytes are missing", x.estimate(0, 1), 0);
        check.dueDouble("upper", x.upper(0, 0), 50.0 * sampled + 1.96 * Math.sqrt(50.0 * 49.0 * sampled));
        FlowExporter y = Check.loaded("template source packets rate;assume 50;sampling 7;");
        y.setSeed(3);
        y.observeMany(1, 0, 0, 0, 10, 200);
        y.flush();
        y.deliverAll();
        check.due("estimate by the rate", y.estimate(0, 0), 7L * sampled);
    }

    /** Roots as Math.sqrt rounds them, over variances that one record can give. */
    private static void roots() {
        // 2^54 + 4, whose root is just below the half between two doubles.
        long variance = (1L << 54) + 4;
        long packetsOf1024 = variance / (1024 * 1023);
        long rest = (variance - packetsOf1024 * 1024 * 1023) / 2;
        FlowExporter half = new FlowExporter();
        put(half, 0, record(1, (int) rest, 0, bits(2)));
        for (int time = 1; packetsOf1024 > 0; time++) {
            long packets = Math.min(packetsOf1024, 0xFFFFFFFFL);
            put(half, time, record(1, (int) packets, 0, bits(1024)));
            packetsOf1024 -= packets;
        }
        check.dueDouble("a root below the half", half.totalMargin(0), 1.96 * Math.sqrt(variance));
        Random random = new Random(11);
        int[] rates = {2, 3, 5, 10, 100, 1000, 1024};
        for (int k = 0; k < 20000; k++) {
            FlowExporter x = new FlowExporter();
            int n = rates[random.nextInt(rates.length)];
            int packets = random.nextInt() >>> random.nextInt(32);
            long bytes = random.nextLong() >> random.nextInt(64);
            long unsigned = packets & 0xFFFFFFFFL;
            put(x, 0, record(1, packets, bytes, bits(n)));
            double factor = (double) n * (n - 1);
            double ofBytes = unsigned == 0 ? 0 : factor * bytes * bytes / unsigned;
            check.dueDouble("margin of packets " + packets + ", " + n, x.totalMargin(0),
                1.96 * Math.sqrt(factor * unsigned));
            check.dueDouble("margin of bytes " + bytes + ", " + packets + ", " + n, x.totalMargin(1),
                1.96 * Math.sqrt(ofBytes));
        }
    }

    private static void truths() {
        FlowExporter x = new FlowExporter();
        x.setRate(1024);
        x.observeMany(1, 2, 3, 4, 10, 100);
        x.observe(1, 2, 3, 4, 5);
        check.due("packets", x.truth(1, 2, 3, 4, 0), 101);
        check.due("bytes", x.truth(1, 2, 3, 4, 1), 1005);
        check.due("another key", x.truth(1, 2, 3, 5, 0), 0);
        check.due("out of range", x.truth(-1, 2, 3, 4, 0), 0);
        check.due("out of range 256", x.truth(257, 2, 3, 4, 1), 0);
        for (int k = 0; k < 30; k++) {
            x.observe(k, 0, 0, 0, k + 1);
        }
        check.due("the 24th key", x.truth(22, 0, 0, 0, 1), 23);
        check.due("the 25th key", x.truth(23, 0, 0, 0, 1), 0);
        x.observe(22, 0, 0, 0, 7);
        x.observe(23, 0, 0, 0, 7);
        check.due("a remembered one goes on", x.truth(22, 0, 0, 0, 1), 30);
        check.due("the other one stays away", x.truth(23, 0, 0, 0, 0), 0);
        x.restartExporter();
        x.restartCollector();
        check.due("restarts do not matter", x.truth(22, 0, 0, 0, 0), 2);
        Check.load(x, "");
        check.due("a load does", x.truth(22, 0, 0, 0, 0), 0);
    }

    private static void covered() {
        FlowExporter x = new FlowExporter();
        check.due("no keys", x.covered(0), 0);
        x.observeMany(1, 0, 0, 0, 10, 20);
        x.observeMany(2, 0, 0, 0, 10, 20);
        x.flush();
        x.deliverAll();
        check.due("both", x.covered(0), 2);
        check.due("both, bytes", x.covered(1), 2);
        x.observe(1, 0, 0, 0, 10);
        check.due("one packet more", x.covered(0), 1);
        x.flush();
        x.duplicate(0);
        x.deliver(0);
        check.due("received", x.covered(1), 2);
        put(x, 9, record(2, 1, 0, bits(1)));
        check.due("one packet too many", x.covered(0), 1);
        check.due("no byte too many", x.covered(1), 2);
        // An interval: 10 packets with N = 2 are 20 +- 1.96 * sqrt(20), from 11.23 to 28.77.
        for (int packets = 5; packets < 35; packets++) {
            FlowExporter y = new FlowExporter();
            y.observeMany(1, 0, 0, 0, 1, packets);
            put(y, 9, record(1, 10, 10, bits(2)));
            check.due("covered by an interval, " + packets, y.covered(0), packets >= 12 && packets <= 28 ? 1 : 0);
        }
        FlowExporter z = new FlowExporter();
        put(z, 9, record(1, 0, 0, bits(2)), record(2, 1, 0, bits(2)));
        check.due("what was never observed is 0", z.covered(0), 1);
    }

    private static void totals() {
        FlowExporter x = new FlowExporter();
        check.due("total of nothing", x.totalEstimate(0), 0);
        check.dueDouble("margin of nothing", x.totalMargin(1), 0.0);
        put(x, 0, record(1, 10, 1000, bits(3)), record(2, 20, 500, bits(7)), record(3, 1, 1, bits(1)));
        check.due("total packets", x.totalEstimate(0), 30 + 140 + 1);
        check.due("total bytes", x.totalEstimate(1), 3000 + 3500 + 1);
        check.dueDouble("margin packets", x.totalMargin(0), 1.96 * Math.sqrt(6.0 * 10 + 42.0 * 20));
        check.dueDouble("margin bytes", x.totalMargin(1),
            1.96 * Math.sqrt(6.0 * 1000 * 1000 / 10 + 42.0 * 500 * 500 / 20));
    }

    private static void ranks() {
        FlowExporter x = new FlowExporter();
        check.due("rank of nothing", x.ranked(0, 0), -1);
        put(x, 0, record(1, 5, -4, bits(1)), record(2, 3, 9, bits(2)), record(3, 6, 9, bits(1)), record(4, 1, 0, bits(1)));
        int[][] want = {{1, 2, 0, 3}, {1, 2, 3, 0}};
        for (int what = 0; what < 2; what++) {
            for (int place = 0; place < 4; place++) {
                check.due("ranked " + place + " " + what, x.ranked(place, what), want[what][place]);
            }
            check.due("ranked 4", x.ranked(4, what), -1);
            check.due("ranked -1", x.ranked(-1, what), -1);
            check.due("ranked least", x.ranked(Integer.MIN_VALUE, what), -1);
        }
    }

    private static void wrongArguments() {
        FlowExporter x = new FlowExporter();
        put(x, 0, record(1, 1, 1, bits(1)));
        for (int wrong : new int[] {-1, 1, 24, Integer.MAX_VALUE, Integer.MIN_VALUE}) {
            check.dueThrow("key " + wrong, IndexOutOfBoundsException.class, () -> x.key(wrong, 9));
            check.dueThrow("raw " + wrong, IndexOutOfBoundsException.class, () -> x.raw(wrong, 9));
            check.dueThrow("estimate " + wrong, IndexOutOfBoundsException.class, () -> x.estimate(wrong, 9));
            check.dueThrow("lower " + wrong, IndexOutOfBoundsException.class, () -> x.lower(wrong, 9));
            check.dueThrow("upper " + wrong, IndexOutOfBoundsException.class, () -> x.upper(wrong, 9));
        }
        for (int wrong : new int[] {-1, 4, Integer.MAX_VALUE, Integer.MIN_VALUE}) {
            check.dueThrow("key 0 " + wrong, IllegalArgumentException.class, () -> x.key(0, wrong));
        }
        for (int wrong : new int[] {-1, 2, Integer.MAX_VALUE, Integer.MIN_VALUE}) {
            check.dueThrow("raw 0 " + wrong, IllegalArgumentException.class, () -> x.raw(0, wrong));
            check.dueThrow("estimate 0 " + wrong, IllegalArgumentException.class, () -> x.estimate(0, wrong));
            check.dueThrow("lower 0 " + wrong, IllegalArgumentException.class, () -> x.lower(0, wrong));
            check.dueThrow("upper 0 " + wrong, IllegalArgumentException.class, () -> x.upper(0, wrong));
            check.dueThrow("truth " + wrong, IllegalArgumentException.class, () -> x.truth(0, 0, 0, 0, wrong));
            check.dueThrow("covered " + wrong, IllegalArgumentException.class, () -> x.covered(wrong));
            check.dueThrow("totalEstimate " + wrong, IllegalArgumentException.class, () -> x.totalEstimate(wrong));
            check.dueThrow("totalMargin " + wrong, IllegalArgumentException.class, () -> x.totalMargin(wrong));
            check.dueThrow("ranked " + wrong, IllegalArgumentException.class, () -> x.ranked(-1, wrong));
        }
    }
}
