/** The boundary cases of TIME and EXPORTER and of promises 7 to 18 and 27 to 31, sentence by sentence. */
public final class EdgesOfExporterTest {
    private static final Edges edges = new Edges();
    private static final Check check = edges.check;
    private static final Twins twins = edges.twins;
    private static final Class<?> ARGUMENT = IllegalArgumentException.class;
    private static final Class<?> INDEX = IndexOutOfBoundsException.class;
    private static final Class<?> STATE = IllegalStateException.class;
    private static final String[] PARTS = {"source", "destination", "port", "protocol", "bytes", "count"};
    private static final int[] LEAST = {0, 0, 0, 0, 1, 1};
    private static final int[] MOST = {255, 255, 65535, 255, 65535, 200};

    public static void main(String[] args) {
        cache();
        draws();
        exports();
        ticks();
        adaptivity();
        restarting();
        observing();
        time();
        reading();
        rates();
        counts();
        edges.finish(7, 8, 9, 10, 11, 12, 13, 14, 15, 16, 17, 18, 27, 28, 29, 30, 31);
    }

    /** A full cache: flow k has the source k and came at the same time. */
    private static FlowExporter fullCache() {
        FlowExporter x = new FlowExporter();
        for (int k = 0; k < 12; k++) {
            x.observe(k, 0, 0, 0, 1);
        }
        return x;
    }

    /** The source in the only record of a message, or in its first one. */
    private static int sourceOf(FlowExporter x, int message, boolean withTemplate) {
        return x.messageByte(message, withTemplate ? 64 : 20);
    }

    private static void sources(String name, FlowExporter x, int... want) {
        check.due(name + ", cacheSize", x.cacheSize(), want.length);
        for (int k = 0; k < want.length && k < x.cacheSize(); k++) {
            check.due(name + ", flow " + k, x.cached(k, 0), want[k]);
        }
    }

    // ---- the cache ----

    private static void cache() {
        edges.terms("The key of a packet consists of its source, destination, port and protocol.", () -> {
            FlowExporter x = new FlowExporter();
            int[][] keys = {{0, 0, 0, 0}, {255, 0, 0, 0}, {0, 255, 0, 0}, {0, 0, 65535, 0}, {0, 0, 0, 255},
                {255, 255, 65535, 255}, {1, 0, 0, 0}, {0, 1, 0, 0}, {0, 0, 1, 0}, {0, 0, 0, 1}, {0, 0, 256, 0}};
            for (int k = 0; k < keys.length; k++) {
                x.observe(keys[k][0], keys[k][1], keys[k][2], keys[k][3], 9);
                check.due("flows of " + (k + 1) + " keys", x.cacheSize(), k + 1);
            }
            x.observe(0, 0, 0, 0, 1234);
            check.due("other bytes make no other key", x.cacheSize(), keys.length);
        });
        edges.terms("The cache has at most 12 flows, in the order in which they were created;", () -> {
            FlowExporter x = fullCache();
            sources("12 flows", x, 0, 1, 2, 3, 4, 5, 6, 7, 8, 9, 10, 11);
            check.due("nothing exported", x.sent(), 0);
            x.observe(12, 0, 0, 0, 1);
            sources("the 13th", x, 1, 2, 3, 4, 5, 6, 7, 8, 9, 10, 11, 12);
            check.due("one exported", x.sent(), 1);
            x.observe(0, 0, 0, 0, 1);
            sources("the first one again is the last", x, 2, 3, 4, 5, 6, 7, 8, 9, 10, 11, 12, 0);
        });
        edges.terms("If it is sampled and a flow with its key is in the cache, the packet is added to this flow;", () -> {
            FlowExporter x = fullCache();
            x.advance(1);
            for (int k = 0; k < 12; k += 11) {
                x.observe(k, 0, 0, 0, 5);
                check.due("packets of " + k, x.cached(k, 4), 2);
                check.due("bytes of " + k, x.cached(k, 5), 6);
                check.due("first of " + k, x.cached(k, 6), 0);
                check.due("last of " + k, x.cached(k, 7), 1);
            }
            check.due("a full cache exports nothing for them", x.sent(), 0);
            check.due("it stays full", x.cacheSize(), 12);
        });
        edges.terms("otherwise, if the cache is full, the flow with the earliest last packet is exported (on a tie the"
            + " first one in the cache), and then a new flow is created at the end of the cache.", () -> {
                for (int early = 0; early < 12; early++) {
                    FlowExporter x = fullCache();
                    x.advance(1);
                    for (int k = 0; k < 12; k++) {
                        if (k != early) {
                            x.observe(k, 0, 0, 0, 1);
                        }
                    }
                    x.observe(99, 0, 0, 0, 1);
                    check.due("the earliest", sourceOf(x, 0, true), early);
                    check.due("the new one is the last", x.cached(11, 0), 99);
                    check.due("the first one then", x.cached(0, 0), early == 0 ? 1 : 0);
                }
                FlowExporter x = fullCache();
                x.advance(1);
                for (int k = 0; k < 12; k++) {
                    if (k != 4 && k != 9) {
                        x.observe(k, 0, 0, 0, 1);
                    }
                }
                x.observe(50, 0, 0, 0, 1);
                check.due("on a tie the first one", sourceOf(x, 0, true), 4);
                x.observe(51, 0, 0, 0, 1);
                check.due("then the other one", sourceOf(x, 1, false), 9);
                x.observe(52, 0, 0, 0, 1);
                check.due("then the first of the others", sourceOf(x, 2, false), 0);
                // Below 12 nothing is exported; a packet that is not sampled exports nothing either.
                FlowExporter eleven = new FlowExporter();
                for (int k = 0; k < 11; k++) {
                    eleven.observe(k, 0, 0, 0, 1);
                }
                eleven.observe(11, 0, 0, 0, 1);
                check.due("the 12th exports nothing", eleven.sent(), 0);
                FlowExporter rare = Check.loaded("sampling 1024;");
                while (rare.cacheSize() < 12) {
                    rare.observeMany(rare.cacheSize(), 0, 0, 0, 1, 200);
                }
                rare.setSeed(1);
                check.due("not sampled", rare.observe(99, 0, 0, 0, 1), false);
                check.due("so nothing is exported", rare.sent(), 0);
            });
    }

    // ---- the draws ----

    private static void draws() {
        edges.terms("a 31-bit state x (1 at first) is replaced by (1103515245 * x + 12345) mod 2^31; the result is"
            + " (x / 256, rounded down) mod n.", () -> {
                int[] rates = {2, 3, 512, 1023, 1024};
                for (int rate : rates) {
                    drawsFrom(new FlowExporter(), 1, rate);
                    int[] seeds = {0, 1, 2, 255, 256, Integer.MAX_VALUE - 1, Integer.MAX_VALUE};
                    for (int seed : seeds) {
                        FlowExporter x = new FlowExporter();
                        x.setSeed(seed);
                        drawsFrom(x, seed, rate);
                    }
                }
            });
        edges.terms("It is sampled if a draw from the sampling rate N gives 0.", () -> {
            // The state that is drawn from is the new one: 1103527590 / 256 is 4310654.
            FlowExporter x = new FlowExporter();
            x.setRate(2);
            check.due("4310654 mod 2", x.observe(1, 1, 1, 1, 1), true);
            FlowExporter y = new FlowExporter();
            y.setRate(3);
            check.due("4310654 mod 3", y.observe(1, 1, 1, 1, 1), false);
        });
        edges.terms("(If N is 1, nothing is drawn, and every packet is sampled.)", () -> {
            FlowExporter x = new FlowExporter();
            check.due("all of 200", x.observeMany(1, 1, 1, 1, 1, 200), 200);
            check.due("one more", x.observe(1, 1, 1, 1, 1), true);
            x.setRate(2);
            drawsFrom(x, 1, 2);
        });
    }

    private static void drawsFrom(FlowExporter x, long seed, int rate) {
        x.setRate(rate);
        long state = seed;
        for (int k = 0; k < 60; k++) {
            state = (1103515245L * state + 12345L) % (1L << 31);
            check.due("draw " + k + " of " + rate + " from " + seed, x.observe(1, 1, 1, 1, 1), state / 256 % rate == 0);
        }
        int many = 0;
        for (int k = 0; k < 200; k++) {
            state = (1103515245L * state + 12345L) % (1L << 31);
            many += state / 256 % rate == 0 ? 1 : 0;
        }
        check.due("200 draws of " + rate + " from " + seed, x.observeMany(1, 1, 1, 1, 1, 200), many);
    }

    // ---- exports ----

    private static void exports() {
        edges.terms("If the template of its protocol has effective fields, its record is appended to the pending"
            + " records; otherwise it is counted as unsent.", () -> {
                FlowExporter x = Check.loaded("template port;template source rate;use 9 1;drop port;");
                x.observe(1, 1, 1, 8, 1);
                x.observe(1, 1, 1, 9, 1);
                check.due("flush", x.flush(), 2);
                check.due("unsent", x.unsent(), 1);
                check.due("sent", x.sent(), 1);
                x.setSupport(0, false);
                x.observe(1, 1, 1, 9, 1);
                x.flush();
                check.due("one field is enough", x.sent(), 2);
                x.setSupport(8, false);
                x.observe(1, 1, 1, 9, 1);
                check.due("flush of one that is not sent", x.flush(), 1);
                check.due("unsent then", x.unsent(), 2);
                check.due("sent stays", x.sent(), 2);
                check.due("no message without records", x.queueLength(), 2);
            });
        edges.terms("(packets, bytes and times modulo 2^32, bytes as 8 bytes)", () -> {
            // 65537 packets of 65535 bytes have 2^32 - 1 bytes.
            FlowExporter x = manyBytes();
            check.due("bytes", x.cached(0, 5), (1L << 32) - 1);
            x.flush();
            check.dueObject("their record", record(x), "00010001" + "00000000ffffffff");
            FlowExporter y = manyBytes();
            y.observe(7, 7, 7, 7, 1);
            check.due("one byte more", y.cached(0, 5), 1L << 32);
            y.flush();
            check.dueObject("its record", record(y), "00010002" + "0000000000000000");
        });
        edges.terms("the field rate contains the bits of the float 1f / N (Float.floatToIntBits), with N as it is at the"
            + " export.", () -> {
                for (int rate = 1; rate <= 1024; rate++) {
                    FlowExporter x = Check.loaded("template rate;sampling " + rate + ";");
                    for (int k = 0; k < 100 && x.cacheSize() == 0; k++) {
                        x.observeMany(1, 1, 1, 1, 1, 200);
                    }
                    x.flush();
                    String want = String.format("%08x", Float.floatToIntBits(1f / rate));
                    check.dueObject("rate " + rate, Check.hex(Check.message(x, 0)).substring(64), want);
                }
            });
        edges.terms("To change the sampling rate to another value, all flows are exported first, in the order of the"
            + " cache.", () -> {
                FlowExporter x = fullCache();
                check.due("a full cache", x.setRate(2), 12);
                check.due("is empty", x.cacheSize(), 0);
                check.due("all in one message", x.queueLength(), 1);
                for (int k = 0; k < 12; k++) {
                    check.due("record " + k, x.messageByte(0, 64 + 29 * k), k);
                    check.due("the rate before in record " + k, x.messageByte(0, 64 + 29 * k + 25), 0x3f);
                    check.due("the rate before in record " + k, x.messageByte(0, 64 + 29 * k + 26), 0x80);
                }
                FlowExporter y = new FlowExporter();
                check.due("an empty cache", y.setRate(2), 0);
                check.due("no message", y.queueLength(), 0);
            });
        edges.terms("At the end of every tick, and of every other operation that exports flows, all pending records are"
            + " sent in messages.", () -> {
                FlowExporter x = Check.loaded("inactive 2;");
                x.observe(1, 0, 0, 0, 1);
                x.advance(1);
                x.observe(2, 0, 0, 0, 1);
                check.due("two ticks that export", x.advance(2), 2);
                check.due("two messages", x.queueLength(), 2);
                check.due("the time of the first", x.messageByte(0, 7), 2);
                check.due("the time of the second", x.messageByte(1, 7), 3);
                FlowExporter y = fullCache();
                y.observe(12, 0, 0, 0, 1);
                check.due("observe", y.queueLength(), 1);
                y.observeMany(13, 0, 0, 0, 1, 200);
                check.due("observeMany", y.queueLength(), 2);
                y.setRate(2);
                check.due("setRate", y.queueLength(), 3);
                for (int k = 0; k < 9 && y.cacheSize() == 0; k++) {
                    y.observeMany(1, 0, 0, 0, 1, 200);
                }
                y.flush();
                check.due("flush", y.queueLength(), 4);
                check.due("a tick without exports", y.advance(1), 0);
                check.due("sends nothing", y.queueLength(), 4);
            });
    }

    private static FlowExporter manyBytes() {
        FlowExporter x = Check.loaded("template packets bytes;");
        for (int k = 0; k < 327; k++) {
            x.observeMany(7, 7, 7, 7, 65535, 200);
        }
        x.observeMany(7, 7, 7, 7, 65535, 137);
        return x;
    }

    private static String record(FlowExporter x) {
        return Check.hex(Check.message(x, 0)).substring(72);
    }

    // ---- ticks ----

    private static void ticks() {
        edges.terms("TIME is counted in ticks from 0.", () -> {
            FlowExporter x = new FlowExporter();
            check.due("at first", x.now(), 0);
            x.advance(1);
            check.due("after a tick", x.now(), 1);
            x.advance(1000);
            check.due("after 1000 more", x.now(), 1001);
        });
        edges.terms("is exported if its first packet is at least ACTIVE ticks ago, or its last packet at least INACTIVE"
            + " ticks ago.", () -> {
                int[] limits = {1, 2, 7, 1000, 10000};
                for (int limit : limits) {
                    FlowExporter x = Check.loaded("inactive " + limit + ";active 10000;");
                    x.observe(1, 0, 0, 0, 1);
                    check.due("before " + limit, pass(x, limit - 1), 0);
                    check.due("inactive for " + limit, x.advance(1), 1);
                    FlowExporter y = Check.loaded("active " + limit + ";inactive 10000;");
                    y.observe(1, 0, 0, 0, 1);
                    check.due("before active for " + limit, pass(y, limit - 1), 0);
                    y.observe(1, 0, 0, 0, 1);
                    check.due("active for " + limit, y.advance(1), 1);
                }
                // The same for a flow that did not come at time 0.
                for (int start = 1; start <= 50; start += 7) {
                    FlowExporter x = Check.loaded("active 10;inactive 4;");
                    x.advance(start);
                    x.observe(1, 0, 0, 0, 1);
                    check.due("before inactive from " + start, x.advance(3), 0);
                    check.due("inactive from " + start, x.advance(1), 1);
                    x.observe(2, 0, 0, 0, 1);
                    for (int k = 0; k < 3; k++) {
                        check.due("kept active from " + start, x.advance(3), 0);
                        x.observe(2, 0, 0, 0, 1);
                    }
                    check.due("active from " + start, x.advance(1), 1);
                }
                // A new packet puts off the one, but not the other.
                FlowExporter z = Check.loaded("active 10;inactive 3;");
                z.observe(1, 0, 0, 0, 1);
                for (int k = 0; k < 4; k++) {
                    check.due("put off", z.advance(2), 0);
                    z.observe(1, 0, 0, 0, 1);
                }
                check.due("at 9", z.advance(1), 0);
                check.due("at 10", z.advance(1), 1);
            });
        edges.terms("Then each flow, in the order of the cache,", () -> {
            FlowExporter x = Check.loaded("active 10000;inactive 10;");
            for (int k = 0; k < 12; k++) {
                x.observe(k, 0, 0, 0, 1);
            }
            x.advance(1);
            x.observe(0, 0, 0, 0, 1);
            x.observe(5, 0, 0, 0, 1);
            x.observe(11, 0, 0, 0, 1);
            check.due("nine of twelve", x.advance(9), 9);
            sources("the others stay", x, 0, 5, 11);
            int[] gone = {1, 2, 3, 4, 6, 7, 8, 9, 10};
            for (int k = 0; k < gone.length; k++) {
                check.due("record " + k, x.messageByte(0, 64 + 29 * k), gone[k]);
            }
            check.due("then they", x.advance(1), 3);
            check.due("and nothing more", x.advance(1000), 0);
        });
    }

    private static int pass(FlowExporter x, int ticks) {
        int exported = 0;
        for (int left = ticks; left > 0; left -= 1000) {
            exported += x.advance(Math.min(left, 1000));
        }
        return exported;
    }

    // ---- adaptivity ----

    private static void export(FlowExporter x, int flows) {
        for (int k = 0; k < flows; k++) {
            for (int tries = 0; tries < 100 && x.cacheSize() == 0; tries++) {
                x.observeMany(k, 0, 0, 0, 1, 200);
            }
            x.flush();
        }
    }

    /** The rate after an interval with so many exports. */
    private static int next(int rate, int budget, int flows) {
        FlowExporter x = Check.loaded("sampling " + rate + ";budget " + budget + ";");
        x.setAdaptive(true);
        export(x, flows);
        x.advance(100);
        return x.rate();
    }

    private static void adaptivity() {
        edges.terms("Then, if the exporter is adaptive and the time is a multiple of 100:", () -> {
            FlowExporter x = Check.loaded("sampling 8;");
            x.advance(200);
            check.due("not adaptive", x.rate(), 8);
            x.setAdaptive(true);
            x.advance(99);
            check.due("at 299", x.rate(), 8);
            x.advance(1);
            check.due("at 300", x.rate(), 4);
            x.advance(1);
            check.due("at 301", x.rate(), 4);
            x.advance(99);
            check.due("at 400", x.rate(), 2);
            x.setAdaptive(false);
            x.advance(100);
            check.due("not adaptive any more", x.rate(), 2);
        });
        edges.terms("let e be the number of flows exported since the last time that was a multiple of 100 (unsent ones"
            + " included);", () -> {
                FlowExporter x = Check.loaded("sampling 2;budget 4;");
                x.setAdaptive(true);
                export(x, 2);
                x.advance(50);
                for (int k = 0; k < 9; k++) {
                    x.setSupport(k, false);
                }
                export(x, 2);
                x.advance(50);
                check.due("4, two of them unsent", x.rate(), 2);
                check.due("unsent", x.unsent(), 2);
                export(x, 1);
                x.advance(100);
                check.due("those before do not count", x.rate(), 1);
                // Exports at the time itself, after its tick, belong to the next interval; those of its tick to this one.
                FlowExporter y = Check.loaded("sampling 1;budget 1;inactive 100;");
                y.setAdaptive(true);
                y.observe(1, 0, 0, 0, 1);
                y.observe(2, 0, 0, 0, 1);
                y.advance(100);
                check.due("by the tick itself", y.rate(), 2);
                export(y, 2);
                y.advance(100);
                check.due("at 100", y.rate(), 4);
                // Also while it is not adaptive.
                FlowExporter z = Check.loaded("sampling 4;budget 4;");
                export(z, 5);
                z.advance(50);
                z.setAdaptive(true);
                z.advance(50);
                check.due("adaptive since the middle", z.rate(), 8);
                z.restartExporter();
                export(z, 2);
                z.restartExporter();
                z.advance(100);
                check.due("a restart forgets none of them", z.rate(), 8);
            });
        edges.terms("if e is greater than the budget and N is at most 512, N is changed to 2 * N;", () -> {
            check.due("e is the budget", next(4, 3, 3), 4);
            check.due("e is one more", next(4, 3, 4), 8);
            check.due("the least budget", next(1, 1, 2), 2);
            check.due("512", next(512, 1, 2), 1024);
            check.due("513", next(513, 1, 2), 513);
            check.due("1024", next(1024, 1, 2), 1024);
        });
        edges.terms("if 2 * e is less than the budget and N is at least 2, N is changed to N / 2 (rounded down).", () -> {
            check.due("twice 2 is 4", next(4, 4, 2), 4);
            check.due("twice 2 is less than 5", next(4, 5, 2), 2);
            check.due("none, the least budget", next(4, 1, 0), 2);
            check.due("none, the greatest budget", next(4, 1000, 0), 2);
            check.due("1 stays", next(1, 1000, 0), 1);
            check.due("2 becomes 1", next(2, 1000, 0), 1);
            check.due("3 becomes 1", next(3, 1000, 0), 1);
            check.due("1023 becomes 511", next(1023, 1000, 0), 511);
        });
        edges.terms("(These exports count for the next interval.)", () -> {
            FlowExporter x = Check.loaded("sampling 2;budget 5;inactive 10000;active 10000;");
            x.setAdaptive(true);
            for (int source = 0; x.cacheSize() < 3; source++) {
                x.observe(source, 0, 0, 0, 1);
            }
            check.due("the change exports three", x.advance(100), 3);
            check.due("to one half", x.rate(), 1);
            export(x, 3);
            x.advance(100);
            check.due("six with those of the change", x.rate(), 2);
            FlowExporter y = Check.loaded("sampling 2;budget 5;");
            y.setAdaptive(true);
            y.advance(100);
            export(y, 3);
            y.advance(100);
            check.due("three alone", y.rate(), 1);
        });
    }

    private static void restarting() {
        edges.terms("Restarting the exporter: the cache and the pending records are emptied, the sequence number begins"
            + " with 0 again, and all templates count as not sent.", () -> {
                FlowExporter x = fullCache();
                x.observe(12, 0, 0, 0, 1);
                check.due("sequence before", x.sequence(), 1);
                check.due("isDue before", x.isDue(0), false);
                check.due("restart", x.restartExporter(), 12);
                check.due("cacheSize", x.cacheSize(), 0);
                check.due("flush of nothing", x.flush(), 0);
                check.due("sequence", x.sequence(), 0);
                check.due("isDue", x.isDue(0), true);
                check.due("the queue stays", x.queueLength(), 1);
                x.observe(1, 0, 0, 0, 1);
                x.flush();
                check.due("the next sequence number", x.messageByte(1, 11), 0);
                check.due("with its template", x.messageLength(1), 93);
                check.due("sequence after it", x.sequence(), 1);
            });
        edges.promise(27, "Returns the number of flows that were in the cache.", () -> {
            check.due("none", new FlowExporter().restartExporter(), 0);
            FlowExporter full = Twins.full();
            check.due("all", full.restartExporter(), 12);
            check.due("again", full.restartExporter(), 0);
            // What is not named stays: time, rate, draws, counts, queue, truth and all of the collector.
            FlowExporter x = Twins.busy();
            FlowExporter y = Twins.busy();
            check.due("restart of a busy one", x.restartExporter(), 3);
            String before = State.of(y).replaceAll("(?m)^(flow|counts).*\n", "").replaceAll(" (true|false)\n", "\n");
            String after = State.of(x).replaceAll("(?m)^(flow|counts).*\n", "").replaceAll(" (true|false)\n", "\n");
            check.dueObject("the rest", after, before);
            check.due("observed", x.observed(), y.observed());
            check.due("sampled", x.sampled(), y.sampled());
            check.due("sent", x.sent(), y.sent());
            check.due("unsent", x.unsent(), y.unsent());
            check.due("adaptive", x.setAdaptive(false), true);
            for (int k = 0; k < 20; k++) {
                check.due("draw " + k, x.observe(1, 1, 1, 1, 1), y.observe(1, 1, 1, 1, 1));
            }
        });
    }

    // ---- promises 8 and 9 ----

    private static int[] packet(int part, int value) {
        int[] packet = {3, 3, 3, 3, 3, 3};
        packet[part] = value;
        return packet;
    }

    private static int many(FlowExporter x, int[] p) {
        return x.observeMany(p[0], p[1], p[2], p[3], p[4], p[5]);
    }

    private static boolean one(FlowExporter x, int[] p) {
        return x.observe(p[0], p[1], p[2], p[3], p[4]);
    }

    private static void insideAndOutside(int part, boolean single) {
        int[] inside = {LEAST[part], LEAST[part] + 1, MOST[part] - 1, MOST[part]};
        for (int value : inside) {
            FlowExporter x = new FlowExporter();
            int[] p = packet(part, value);
            if (single) {
                check.due(PARTS[part] + " " + value, one(x, p), true);
            } else {
                check.due(PARTS[part] + " " + value, many(x, p), p[5]);
            }
            int packets = single ? 1 : p[5];
            long[] want = {p[0], p[1], p[2], p[3], packets, (long) packets * p[4], 0, 0};
            for (int field = 0; field < 8; field++) {
                check.due(PARTS[part] + " " + value + ", field " + field, x.cached(0, field), want[field]);
            }
            check.due(PARTS[part] + " " + value + ", truth", x.truth(p[0], p[1], p[2], p[3], 1), want[5]);
            check.due(PARTS[part] + " " + value + ", observed", x.observed(), packets);
        }
        int[] outside = {LEAST[part] - 1, MOST[part] + 1, -1, Integer.MAX_VALUE, Integer.MIN_VALUE};
        for (int value : outside) {
            int[] p = packet(part, value);
            twins.refused(PARTS[part] + " " + value, ARGUMENT, x -> single ? (Object) one(x, p) : (Object) many(x, p));
        }
    }

    private static void observing() {
        String[] ranges = {"0 to 255", "0 to 255", "0 to 65535", "0 to 255", "1 to 65535", "1 to 200"};
        for (int k = 0; k < 6; k++) {
            int part = k;
            if (part < 5) {
                edges.promise(8, "- `" + PARTS[k] + "`: " + ranges[k], () -> insideAndOutside(part, true));
            }
            edges.promise(9, "- `" + PARTS[k] + "`: " + ranges[k], () -> insideAndOutside(part, false));
        }
        edges.promise(8, "Throws `IllegalArgumentException` if a parameter is out of range", () -> {
            twins.refused("all of them", ARGUMENT, x -> x.observe(-1, 256, -1, 256, 0));
            twins.refused("the bytes alone", ARGUMENT, x -> x.observe(0, 0, 0, 0, 0));
            twins.refused("256 of a byte, 65536 of a port", ARGUMENT, x -> x.observe(256, 256, 65536, 256, 65536));
        });
        edges.promise(9, "Throws `IllegalArgumentException` if a parameter is out of range", () -> {
            twins.refused("all of them", ARGUMENT, x -> x.observeMany(-1, 256, -1, 256, 0, 0));
            twins.refused("the count alone", ARGUMENT, x -> x.observeMany(0, 0, 0, 0, 1, 0));
            twins.refused("the bytes alone", ARGUMENT, x -> x.observeMany(0, 0, 0, 0, 0, 1));
        });
        edges.promise(8, "Returns true if it was sampled.", () -> {
            // One that was not sampled is observed all the same, and its draw has been made.
            FlowExporter x = new FlowExporter();
            x.setRate(3);
            check.due("not sampled", x.observe(1, 1, 1, 1, 9), false);
            check.due("observed", x.observed(), 1);
            check.due("sampled", x.sampled(), 0);
            check.due("truth", x.truth(1, 1, 1, 1, 1), 9);
            check.due("no flow", x.cacheSize(), 0);
        });
        edges.promise(9, "Observes a number of equal packets, one after the other.", () -> {
            FlowExporter x = Twins.busy();
            FlowExporter y = Twins.busy();
            int sampled = x.observeMany(77, 7, 7, 17, 70, 200);
            int counted = 0;
            for (int k = 0; k < 200; k++) {
                counted += y.observe(77, 7, 7, 17, 70) ? 1 : 0;
            }
            check.due("sampled", sampled, counted);
            twins.alike("200 at once and one by one", x, y);
        });
    }

    // ---- promise 10 ----

    private static void time() {
        edges.promise(10, "- `ticks`: 1 to 1000", () -> {
            FlowExporter x = new FlowExporter();
            x.advance(1);
            x.advance(1000);
            check.due("now", x.now(), 1001);
            FlowExporter y = new FlowExporter();
            for (int k = 0; k < 1001; k++) {
                y.advance(1);
            }
            twins.alike("1000 ticks at once and one by one", x, y);
        });
        edges.promise(10, "Throws `IllegalArgumentException` if ticks is out of range", () -> {
            int[] wrong = {0, -1, 1001, Integer.MAX_VALUE, Integer.MIN_VALUE};
            for (int ticks : wrong) {
                twins.refused("advance " + ticks, ARGUMENT, x -> x.advance(ticks));
            }
        });
        edges.promise(10, "Throws `IllegalStateException` if the time would exceed 1000000", () -> {
            FlowExporter x = atTime(999001);
            x.observe(1, 1, 1, 1, 1);
            String before = State.of(x);
            check.dueObject("999001 + 1000", State.answer(() -> x.advance(1000)), STATE);
            check.dueObject("nothing changed", State.of(x), before);
            check.dueObject("the argument is looked at first", State.answer(() -> x.advance(1001)), ARGUMENT);
            check.due("999001 + 999", x.advance(999), 1);
            check.due("now", x.now(), 1000000);
            check.dueObject("one more", State.answer(() -> x.advance(1)), STATE);
            check.dueObject("the argument first at the end", State.answer(() -> x.advance(0)), ARGUMENT);
            check.due("now still", x.now(), 1000000);
            x.observe(1, 1, 1, 1, 1);
            check.due("other calls go on", x.flush(), 1);
            FlowExporter y = atTime(999000);
            check.due("999000 + 1000", y.advance(1000), 0);
            check.due("now", y.now(), 1000000);
            Check.load(y, "");
            check.due("a load begins anew", y.advance(1000), 0);
        });
        edges.promise(10, "Returns the number of flows that were exported.", () -> {
            FlowExporter x = fullCache();
            check.due("none", x.advance(99), 0);
            check.due("all", x.advance(1), 12);
            // Those that a change of the rate exports and those that are not sent are exported, too.
            FlowExporter y = Check.loaded("sampling 2;template port;drop port;");
            y.setAdaptive(true);
            y.advance(50);
            for (int source = 0; y.cacheSize() < 5; source++) {
                y.observe(source, 0, 0, 0, 1);
            }
            check.due("by a change", y.advance(50), 5);
            check.due("unsent", y.unsent(), 5);
        });
    }

    private static FlowExporter atTime(int time) {
        FlowExporter x = new FlowExporter();
        pass(x, time);
        return x;
    }

    // ---- promises 11 to 13 ----

    private static void reading() {
        edges.promise(11, "Returns how many there were.", () -> {
            FlowExporter x = fullCache();
            check.due("a full cache", x.flush(), 12);
            for (int k = 0; k < 12; k++) {
                check.due("in the order of the cache, " + k, x.messageByte(0, 64 + 29 * k), k);
            }
            check.due("an empty one", x.flush(), 0);
            check.due("no message more", x.queueLength(), 1);
        });
        edges.promise(12, "Returns 0 to 12.", () -> {
            FlowExporter x = new FlowExporter();
            for (int k = 0; k < 15; k++) {
                check.due("with " + k, x.cacheSize(), Math.min(k, 12));
                x.observe(k, 0, 0, 0, 1);
            }
        });
        edges.promise(13, "- `index`: index of a flow, from 0", () -> {
            FlowExporter x = fullCache();
            check.due("the first", x.cached(0, 0), 0);
            check.due("the last", x.cached(11, 0), 11);
        });
        edges.promise(13, "- `field`: 0 to 7, a field of a record", () -> {
            FlowExporter x = new FlowExporter();
            x.advance(3);
            x.observe(255, 254, 65535, 253, 65535);
            x.advance(4);
            x.observe(255, 254, 65535, 253, 1);
            long[] want = {255, 254, 65535, 253, 2, 65536, 3, 7};
            for (int field = 0; field < 8; field++) {
                check.due("field " + field, x.cached(0, field), want[field]);
            }
        });
        edges.promise(13, "Returns the value as it would be in a record (packets and bytes without modulo).", () -> {
            FlowExporter x = manyBytes();
            x.observeMany(7, 7, 7, 7, 65535, 200);
            check.due("packets", x.cached(0, 4), 65737);
            check.due("bytes", x.cached(0, 5), 65737L * 65535);
        });
        edges.promise(13, "Throws `IndexOutOfBoundsException` if there is no such flow", () -> {
            int[] wrong = {-1, 12, 13, Integer.MAX_VALUE, Integer.MIN_VALUE};
            for (int index : wrong) {
                twins.refused("cached " + index, INDEX, x -> x.cached(index, 0));
                twins.refused("cached " + index + ", a wrong field", INDEX, x -> x.cached(index, 8));
            }
            twins.refusedAfter(FlowExporter::new, "cached 0 of none", INDEX, x -> x.cached(0, 0));
            twins.refusedAfter(Twins::busy, "cached 3 of three", INDEX, x -> x.cached(3, 0));
        });
        edges.promise(13, "Throws `IllegalArgumentException` if field is out of range", () -> {
            int[] wrong = {-1, 8, 9, Integer.MAX_VALUE, Integer.MIN_VALUE};
            for (int field : wrong) {
                twins.refusedAfter(Twins::busy, "cached 0 " + field, ARGUMENT, x -> x.cached(0, field));
                twins.refusedAfter(Twins::full, "cached 11 " + field, ARGUMENT, x -> x.cached(11, field));
            }
        });
    }

    // ---- promises 14 to 18 ----

    private static void rates() {
        edges.promise(14, "Returns 1 to 1024.", () -> {
            FlowExporter x = new FlowExporter();
            check.due("at first", x.rate(), 1);
            x.setRate(1024);
            check.due("the greatest", x.rate(), 1024);
        });
        edges.promise(15, "Returns the bits of the float 1f / N.", () -> {
            FlowExporter x = new FlowExporter();
            check.due("of 1", x.rateBits(), 0x3f800000);
            for (int rate = 1; rate <= 1024; rate++) {
                x.setRate(rate);
                check.due("of " + rate, x.rateBits(), Float.floatToIntBits(1f / rate));
            }
        });
        edges.promise(16, "- `rate`: 1 to 1024", () -> {
            int[] rates = {2, 1024, 1023, 1};
            FlowExporter x = new FlowExporter();
            for (int rate : rates) {
                check.due("setRate " + rate, x.setRate(rate), 0);
                check.due("rate " + rate, x.rate(), rate);
            }
        });
        edges.promise(16, "(Nothing happens if it is the same.)", () -> {
            twins.refusedAfter(FlowExporter::new, "1 again", 0, x -> x.setRate(1));
            twins.refusedAfter(Twins::busy, "2 again", 0, x -> x.setRate(2));
            twins.refusedAfter(Twins::full, "1 again, full", 0, x -> x.setRate(1));
        });
        edges.promise(16, "Returns the number of flows that were exported; NONE if rate is out of range.", () -> {
            int[] wrong = {0, -1, 1025, Integer.MAX_VALUE, Integer.MIN_VALUE};
            for (int rate : wrong) {
                twins.refused("setRate " + rate, -1, x -> x.setRate(rate));
            }
            check.due("of a full cache", Twins.full().setRate(1024), 12);
            check.due("of an empty one", new FlowExporter().setRate(1024), 0);
        });
        edges.promise(17, "Returns whether it was adaptive before.", () -> {
            FlowExporter x = new FlowExporter();
            boolean[] calls = {false, true, true, false, false};
            boolean before = false;
            for (boolean call : calls) {
                check.due("setAdaptive " + call, x.setAdaptive(call), before);
                before = call;
            }
            // Though it answers false, it is adaptive then: its description says so.
            FlowExporter y = Check.loaded("sampling 2;");
            check.due("setAdaptive", y.setAdaptive(true), false);
            y.advance(100);
            check.due("it is", y.rate(), 1);
        });
        edges.promise(18, "- `seed`: 0 to 2147483647", () -> {
            int[] seeds = {0, 1, Integer.MAX_VALUE};
            for (int seed : seeds) {
                FlowExporter x = Twins.busy();
                check.due("setSeed " + seed, x.setSeed(seed), true);
                x.setRate(3);
                drawsFrom(x, seed, 3);
            }
        });
        edges.promise(18, "Returns true; false if seed is negative.", () -> {
            int[] wrong = {-1, -2, Integer.MIN_VALUE};
            for (int seed : wrong) {
                twins.refused("setSeed " + seed, false, x -> x.setSeed(seed));
            }
        });
    }

    // ---- promises 28 to 31 ----

    private static void counts() {
        edges.promise(28, "Returns the number of packets that were observed.", () -> {
            FlowExporter x = Check.loaded("sampling 1024;");
            check.due("at first", x.observed(), 0);
            x.observe(1, 1, 1, 1, 1);
            x.observeMany(1, 1, 1, 1, 1, 200);
            check.due("sampled or not", x.observed(), 201);
        });
        edges.promise(29, "Returns the number of packets that were sampled.", () -> {
            FlowExporter x = Check.loaded("sampling 2;");
            check.due("at first", x.sampled(), 0);
            int sampled = x.observeMany(1, 1, 1, 1, 1, 200) + (x.observe(1, 1, 1, 1, 1) ? 1 : 0);
            check.due("then", x.sampled(), sampled);
            check.due("not all of them", sampled < 201, true);
        });
        edges.promise(30, "Returns the number of records that were sent in messages.", () -> {
            FlowExporter x = fullCache();
            check.due("at first", x.sent(), 0);
            x.flush();
            check.due("then", x.sent(), 12);
            for (int k = 0; k < 20; k++) {
                x.observe(1, 1, 1, 1, 1);
                x.flush();
            }
            check.due("those of dropped messages, too", x.sent(), 32);
            check.due("dropped", x.dropped(), 9);
        });
        edges.promise(31, "Returns the number of flows that were counted as unsent.", () -> {
            FlowExporter x = Check.loaded("template port;drop port;");
            check.due("at first", x.unsent(), 0);
            for (int k = 0; k < 14; k++) {
                x.observe(k, 1, 1, 1, 1);
            }
            check.due("by a full cache", x.unsent(), 2);
            x.flush();
            check.due("by flush", x.unsent(), 14);
            check.due("no message", x.queueLength(), 0);
            check.due("sequence", x.sequence(), 0);
        });
    }
}
