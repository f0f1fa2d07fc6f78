/** Promises 7 to 18 and 27 to 31: packets, flows, time, the sampling rate and its draws. */
public final class ExporterTest {
    private static final Check check = new Check();

    public static void main(String[] args) {
        observeRanges();
        observeManyRanges();
        draws();
        flowsOfTheCache();
        fullCache();
        timeouts();
        advanceLimits();
        flushAndCached();
        setRate();
        rateBits();
        adaptive();
        adaptiveLimits();
        seeds();
        restart();
        counts();
        check.finish();
    }

    private static void wrongPacket(int source, int destination, int port, int protocol, int bytes) {
        FlowExporter x = new FlowExporter();
        String call = "observe " + source + " " + destination + " " + port + " " + protocol + " " + bytes;
        check.dueThrow(call, IllegalArgumentException.class,
            () -> x.observe(source, destination, port, protocol, bytes));
        check.dueThrow(call + " many", IllegalArgumentException.class,
            () -> x.observeMany(source, destination, port, protocol, bytes, 1));
        check.due(call + ", observed", x.observed(), 0);
        check.due(call + ", cacheSize", x.cacheSize(), 0);
    }

    private static void observeRanges() {
        int[] wrong = {-1, Integer.MIN_VALUE, Integer.MAX_VALUE};
        for (int v : wrong) {
            wrongPacket(v, 0, 0, 0, 1);
            wrongPacket(0, v, 0, 0, 1);
            wrongPacket(0, 0, v, 0, 1);
            wrongPacket(0, 0, 0, v, 1);
            wrongPacket(0, 0, 0, 0, v);
        }
        wrongPacket(256, 0, 0, 0, 1);
        wrongPacket(0, 256, 0, 0, 1);
        wrongPacket(0, 0, 65536, 0, 1);
        wrongPacket(0, 0, 0, 256, 1);
        wrongPacket(0, 0, 0, 0, 0);
        wrongPacket(0, 0, 0, 0, 65536);
        FlowExporter x = new FlowExporter();
        check.due("observe the least", x.observe(0, 0, 0, 0, 1), true);
        check.due("observe the most", x.observe(255, 255, 65535, 255, 65535), true);
        for (int field = 0; field < 4; field++) {
            check.due("the least " + field, x.cached(0, field), 0);
            check.due("the most " + field, x.cached(1, field), field == 2 ? 65535 : 255);
        }
        check.due("the most bytes", x.cached(1, 5), 65535);
    }

    private static void observeManyRanges() {
        FlowExporter x = new FlowExporter();
        for (int count : new int[] {0, -1, 201, Integer.MAX_VALUE, Integer.MIN_VALUE}) {
            check.dueThrow("observeMany " + count, IllegalArgumentException.class,
                () -> x.observeMany(1, 1, 1, 1, 1, count));
        }
        check.due("observeMany 1", x.observeMany(1, 1, 1, 1, 7, 1), 1);
        check.due("observeMany 200", x.observeMany(1, 1, 1, 1, 7, 200), 200);
        check.due("packets", x.cached(0, 4), 201);
        check.due("bytes", x.cached(0, 5), 1407);
        check.due("observed", x.observed(), 201);
        check.due("sampled", x.sampled(), 201);
    }

    private static void draws() {
        FlowExporter x = new FlowExporter();
        x.setRate(3);
        long state = 1;
        long sampled = 0;
        for (int k = 0; k < 300; k++) {
            state = (1103515245L * state + 12345L) % (1L << 31);
            boolean due = state / 256 % 3 == 0;
            sampled += due ? 1 : 0;
            check.due("draw " + k, x.observe(1, 1, 1, 1, 1), due);
        }
        check.due("observed of draws", x.observed(), 300);
        check.due("sampled of draws", x.sampled(), sampled);
        // With N = 1 nothing is drawn: the state stays as it is.
        x.setRate(1);
        x.observeMany(1, 1, 1, 1, 1, 100);
        x.setRate(2);
        for (int k = 0; k < 50; k++) {
            state = (1103515245L * state + 12345L) % (1L << 31);
            check.due("draw of 2, " + k, x.observe(1, 1, 1, 1, 1), state / 256 % 2 == 0);
        }
        x.setRate(1024);
        int many = 0;
        for (int k = 0; k < 200; k++) {
            state = (1103515245L * state + 12345L) % (1L << 31);
            many += state / 256 % 1024 == 0 ? 1 : 0;
        }
        check.due("observeMany of draws", x.observeMany(1, 1, 1, 1, 1, 200), many);
        check.due("a packet that is not sampled makes no flow", x.cacheSize(), many == 0 ? 0 : 1);
    }

    private static void flowsOfTheCache() {
        FlowExporter x = new FlowExporter();
        x.advance(3);
        x.observe(1, 2, 3, 4, 50);
        x.advance(4);
        x.observe(1, 2, 3, 5, 60);
        x.observe(1, 2, 3, 4, 70);
        check.due("cacheSize", x.cacheSize(), 2);
        long[][] want = {{1, 2, 3, 4, 2, 120, 3, 7}, {1, 2, 3, 5, 1, 60, 7, 7}};
        for (int k = 0; k < 2; k++) {
            for (int field = 0; field < 8; field++) {
                check.due("cached " + k + " " + field, x.cached(k, field), want[k][field]);
            }
        }
        // Each part of a key tells two flows apart.
        x.observe(9, 2, 3, 4, 1);
        x.observe(1, 9, 3, 4, 1);
        x.observe(1, 2, 9, 4, 1);
        check.due("cacheSize of five keys", x.cacheSize(), 5);
    }

    private static void fullCache() {
        FlowExporter x = new FlowExporter();
        for (int k = 0; k < 12; k++) {
            x.observe(k, 0, 0, 0, 1);
        }
        x.advance(1);
        x.observe(0, 0, 0, 0, 1);
        x.observe(2, 0, 0, 0, 1);
        check.due("full", x.cacheSize(), 12);
        check.due("nothing exported", x.queueLength(), 0);
        // 1, 3, 4 .. have the earliest last packet: 1 is the first of them.
        check.due("one more", x.observe(20, 0, 0, 0, 1), true);
        check.due("still full", x.cacheSize(), 12);
        check.due("order 0", x.cached(0, 0), 0);
        check.due("order 1", x.cached(1, 0), 2);
        check.due("order 10", x.cached(10, 0), 11);
        check.due("the new one is the last", x.cached(11, 0), 20);
        check.due("its message", x.queueLength(), 1);
        check.due("its record", x.messageByte(0, 64), 1);
        x.observe(21, 0, 0, 0, 1);
        check.due("then 3", x.messageByte(1, 20), 3);
        // The first one of all, on a tie and without one.
        FlowExporter y = new FlowExporter();
        for (int k = 0; k < 13; k++) {
            y.observe(k, 0, 0, 0, 1);
        }
        check.due("the first on a tie", y.messageByte(0, 64), 0);
        FlowExporter z = new FlowExporter();
        for (int k = 0; k < 14; k++) {
            z.observe(k, 0, 0, 0, 1);
            z.advance(1);
        }
        check.due("the earliest", z.messageByte(0, 64), 0);
        check.due("the next", z.messageByte(1, 20), 1);
        x.setRate(1024);
        x.setSeed(1);
        x.observe(30, 0, 0, 0, 1);
        check.due("what is not sampled exports nothing", x.sampled(), 16);
    }

    private static void timeouts() {
        FlowExporter x = Check.loaded("active 5;inactive 3;");
        x.observe(1, 0, 0, 0, 1);
        check.due("two ticks", x.advance(2), 0);
        x.observe(1, 0, 0, 0, 1);
        x.observe(2, 0, 0, 0, 1);
        check.due("two more", x.advance(2), 0);
        check.due("active is up", x.advance(1), 2);
        check.due("sent together", x.queueLength(), 1);
        x.observe(3, 0, 0, 0, 1);
        check.due("inactive is not up", x.advance(2), 0);
        check.due("inactive is up", x.advance(1), 1);
        x.observe(4, 0, 0, 0, 1);
        x.advance(2);
        x.observe(4, 0, 0, 0, 1);
        x.advance(2);
        x.observe(4, 0, 0, 0, 1);
        check.due("active, with a new packet", x.advance(1), 1);
        x.observe(5, 0, 0, 0, 1);
        x.advance(1);
        x.observe(6, 0, 0, 0, 1);
        check.due("both of them", x.advance(10), 2);
        check.due("in two ticks, so in two messages", x.queueLength(), 5);
        // The order of the cache, with flows between that stay.
        FlowExporter y = Check.loaded("active 5;inactive 3;");
        y.observe(1, 0, 0, 0, 1);
        y.observe(2, 0, 0, 0, 1);
        y.observe(3, 0, 0, 0, 1);
        y.advance(2);
        y.observe(2, 0, 0, 0, 1);
        check.due("1 and 3 are exported", y.advance(1), 2);
        check.due("2 stays", y.cached(0, 0), 2);
        check.due("first 1", y.messageByte(0, 64), 1);
        check.due("then 3", y.messageByte(0, 64 + 29), 3);
    }

    private static void advanceLimits() {
        FlowExporter x = new FlowExporter();
        for (int ticks : new int[] {0, -1, 1001, Integer.MAX_VALUE, Integer.MIN_VALUE}) {
            check.dueThrow("advance " + ticks, IllegalArgumentException.class, () -> x.advance(ticks));
        }
        check.due("now", x.now(), 0);
        for (int k = 0; k < 999; k++) {
            x.advance(1000);
        }
        x.advance(999);
        check.dueThrow("advance beyond", IllegalStateException.class, () -> x.advance(2));
        check.dueThrow("a wrong argument first", IllegalArgumentException.class, () -> x.advance(1001));
        check.due("now before the end", x.now(), 999999);
        check.due("advance to the end", x.advance(1), 0);
        check.due("now at the end", x.now(), 1000000);
        check.dueThrow("advance at the end", IllegalStateException.class, () -> x.advance(1));
    }

    private static void flushAndCached() {
        FlowExporter x = new FlowExporter();
        check.due("flush of nothing", x.flush(), 0);
        check.due("no message", x.queueLength(), 0);
        x.observe(1, 0, 0, 0, 1);
        x.observe(2, 0, 0, 0, 1);
        check.dueThrow("cached 2", IndexOutOfBoundsException.class, () -> x.cached(2, 0));
        check.dueThrow("cached -1", IndexOutOfBoundsException.class, () -> x.cached(-1, 0));
        check.dueThrow("cached 0 8", IllegalArgumentException.class, () -> x.cached(0, 8));
        check.dueThrow("cached 0 -1", IllegalArgumentException.class, () -> x.cached(0, -1));
        check.dueThrow("cached 2 8, the index first", IndexOutOfBoundsException.class, () -> x.cached(2, 8));
        check.due("flush", x.flush(), 2);
        check.due("empty", x.cacheSize(), 0);
        check.due("one message", x.queueLength(), 1);
        check.due("in order", x.messageByte(0, 64), 1);
        check.due("in order, the second", x.messageByte(0, 64 + 29), 2);
        // More bytes than 32 bits hold: without modulo in the cache, with it in the record.
        for (int k = 0; k < 330; k++) {
            x.observeMany(7, 0, 0, 0, 65535, 200);
        }
        check.due("bytes without modulo", x.cached(0, 5), 330L * 200 * 65535);
        check.due("packets", x.cached(0, 4), 66000);
        x.flush();
        x.deliverAll();
        check.due("bytes modulo 2^32", x.raw(x.find(7, 0, 0, 0), 1), 330L * 200 * 65535 % (1L << 32));
    }

    private static void setRate() {
        FlowExporter x = new FlowExporter();
        x.observe(1, 0, 0, 0, 1);
        x.observe(2, 0, 0, 0, 1);
        for (int rate : new int[] {0, -1, 1025, Integer.MAX_VALUE, Integer.MIN_VALUE}) {
            check.due("setRate " + rate, x.setRate(rate), -1);
        }
        check.due("the same rate", x.setRate(1), 0);
        check.due("nothing happened", x.cacheSize(), 2);
        check.due("another rate", x.setRate(4), 2);
        check.due("rate", x.rate(), 4);
        check.due("exported", x.cacheSize(), 0);
        check.due("and sent", x.queueLength(), 1);
        check.due("with the rate before", x.messageByte(0, 64 + 25), 0x3f);
        check.due("with the rate before, next byte", x.messageByte(0, 64 + 26), 0x80);
        check.due("setRate 1024", x.setRate(1024), 0);
        check.due("rate 1024", x.rate(), 1024);
    }

    private static void rateBits() {
        FlowExporter x = new FlowExporter();
        for (int rate = 1; rate <= 1024; rate++) {
            x.setRate(rate);
            check.due("rateBits of " + rate, x.rateBits(), Float.floatToIntBits(1f / rate));
        }
    }

    /** Exports that many flows, each in a message of its own. */
    private static void export(FlowExporter x, int flows) {
        for (int k = 0; k < flows; k++) {
            for (int tries = 0; tries < 100 && x.cacheSize() == 0; tries++) {
                x.observeMany(k, 0, 0, 0, 1, 200);
            }
            x.flush();
            x.deliverAll();
        }
    }

    private static void adaptive() {
        FlowExporter x = Check.loaded("sampling 4;budget 4;");
        check.due("not adaptive at first", x.setAdaptive(true), false);
        check.due("adaptive now", x.setAdaptive(true), true);
        export(x, 5);
        x.advance(99);
        check.due("not before 100", x.rate(), 4);
        x.advance(1);
        check.due("5 are more than 4", x.rate(), 8);
        export(x, 4);
        x.advance(100);
        check.due("4 are not more than 4", x.rate(), 8);
        export(x, 2);
        x.advance(100);
        check.due("twice 2 is not less than 4", x.rate(), 8);
        export(x, 1);
        x.advance(100);
        check.due("twice 1 is less than 4", x.rate(), 4);
        FlowExporter five = Check.loaded("sampling 4;budget 5;");
        five.setAdaptive(true);
        export(five, 2);
        five.advance(100);
        check.due("twice 2 is less than 5", five.rate(), 2);
        x.setAdaptive(false);
        export(x, 9);
        x.advance(100);
        check.due("not adaptive", x.rate(), 4);
        x.setAdaptive(true);
        export(x, 2);
        x.advance(100);
        check.due("exports of the interval before do not count", x.rate(), 4);
        Check.load(x, "sampling 4;budget 4;");
        x.setAdaptive(true);
        export(x, 5);
        x.advance(100);
        check.due("exports before the load do not count", x.rate(), 8);
        // Unsent flows count, and so do those of the tick itself; those of the change count for the next interval.
        FlowExporter y = Check.loaded("budget 1;active 100;inactive 10000;");
        for (int k = 0; k < 9; k++) {
            y.setSupport(k, false);
        }
        y.setAdaptive(true);
        y.observe(1, 0, 0, 0, 1);
        y.observe(2, 0, 0, 0, 1);
        y.advance(50);
        y.observe(3, 0, 0, 0, 1);
        y.observe(4, 0, 0, 0, 1);
        check.due("two by time, two by the change", y.advance(50), 4);
        check.due("unsent", y.unsent(), 4);
        check.due("twice the rate", y.rate(), 2);
        check.due("nothing more", y.advance(100), 0);
        check.due("the two of the change counted", y.rate(), 4);
        y.advance(100);
        check.due("none in the interval", y.rate(), 2);
    }

    private static void adaptiveLimits() {
        FlowExporter x = Check.loaded("sampling 512;budget 1;");
        x.setAdaptive(true);
        export(x, 2);
        x.advance(100);
        check.due("512 is doubled", x.rate(), 1024);
        export(x, 2);
        x.advance(100);
        check.due("1024 stays", x.rate(), 1024);
        x.setRate(513);
        export(x, 2);
        x.advance(100);
        check.due("513 stays", x.rate(), 513);
        x.advance(100);
        check.due("half of 513", x.rate(), 256);
        x.setRate(3);
        x.advance(100);
        check.due("half of 3", x.rate(), 1);
        x.advance(100);
        check.due("1 stays", x.rate(), 1);
    }

    private static void seeds() {
        FlowExporter x = new FlowExporter();
        x.setRate(2);
        for (int seed : new int[] {0, 1, 77, Integer.MAX_VALUE}) {
            check.due("setSeed " + seed, x.setSeed(seed), true);
            long state = seed;
            for (int k = 0; k < 20; k++) {
                state = (1103515245L * state + 12345L) % (1L << 31);
                check.due("draw of seed " + seed, x.observe(1, 1, 1, 1, 1), state / 256 % 2 == 0);
            }
        }
        x.setSeed(5);
        check.due("setSeed -1", x.setSeed(-1), false);
        check.due("setSeed least", x.setSeed(Integer.MIN_VALUE), false);
        long state = 5;
        for (int k = 0; k < 20; k++) {
            state = (1103515245L * state + 12345L) % (1L << 31);
            check.due("draw after a wrong seed", x.observe(1, 1, 1, 1, 1), state / 256 % 2 == 0);
        }
    }

    private static void restart() {
        FlowExporter x = new FlowExporter();
        check.due("restart of nothing", x.restartExporter(), 0);
        x.observe(1, 0, 0, 0, 1);
        x.flush();
        x.observe(2, 0, 0, 0, 1);
        x.observe(3, 0, 0, 0, 1);
        check.due("sequence before", x.sequence(), 1);
        check.due("isDue before", x.isDue(0), false);
        check.due("restart", x.restartExporter(), 2);
        check.due("cacheSize", x.cacheSize(), 0);
        check.due("sequence", x.sequence(), 0);
        check.due("isDue", x.isDue(0), true);
        check.due("sent stays", x.sent(), 1);
        check.due("observed stays", x.observed(), 3);
        check.due("sampled stays", x.sampled(), 3);
        check.due("unsent stays", x.unsent(), 0);
        check.due("the queue stays", x.queueLength(), 1);
        check.due("the truth stays", x.truth(2, 0, 0, 0, 0), 1);
    }

    private static void counts() {
        FlowExporter x = Check.loaded("template packets;template source;use 9 1;drop packets;");
        x.observe(1, 0, 0, 8, 1);
        x.observe(1, 0, 0, 9, 1);
        x.observe(2, 0, 0, 8, 1);
        check.due("flush counts unsent ones", x.flush(), 3);
        check.due("unsent", x.unsent(), 2);
        check.due("sent", x.sent(), 1);
        check.due("sequence", x.sequence(), 1);
        check.due("one message", x.queueLength(), 1);
        x.observe(1, 0, 0, 8, 1);
        x.advance(100);
        check.due("unsent by time", x.unsent(), 3);
        check.due("no message", x.queueLength(), 1);
    }
}
