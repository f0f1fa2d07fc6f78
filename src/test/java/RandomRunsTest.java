import java.lang.reflect.InvocationTargetException;
import java.lang.reflect.Method;
import java.lang.reflect.Modifier;
import java.util.ArrayList;
import java.util.Arrays;
import java.util.List;
import java.util.Map;
import java.util.Random;
import java.util.TreeMap;

/** All promises: random runs of calls, with the answers of the model as those that are due. */
public final class RandomRunsTest {
    private static final Check check = new Check();
    private static final Map<String, Method> FACE = new TreeMap<>();
    private static final Map<String, Method> MODEL = new TreeMap<>();
    private static final String[] FIELDS =
        {"source", "destination", "port", "protocol", "packets", "bytes", "first", "last", "rate"};

    private final Random random;
    private final FlowExporter x = new FlowExporter();
    private final Model model = new Model();
    private final List<String> calls = new ArrayList<>();
    private final int keys;
    private final boolean wild;

    private RandomRunsTest(long seed) {
        random = new Random(seed);
        keys = new int[] {2, 8, 14, 20, 40}[random.nextInt(5)];
        wild = random.nextInt(4) == 0;
    }

    public static void main(String[] args) throws Exception {
        for (Method m : FlowExporter.class.getDeclaredMethods()) {
            if (Modifier.isPublic(m.getModifiers())) {
                FACE.put(m.getName(), m);
                MODEL.put(m.getName(), Model.class.getMethod(m.getName(), m.getParameterTypes()));
            }
        }
        check.due("methods of the face", FACE.size(), 59);
        int runs = args.length > 0 ? Integer.parseInt(args[0]) : 500;
        long first = args.length > 1 ? Long.parseLong(args[1]) : 1;
        for (long seed = first; seed < first + runs && check.isClean(); seed++) {
            new RandomRunsTest(seed).run(seed);
        }
        check.finish();
    }

    private void run(long seed) throws Exception {
        int length = 20 + random.nextInt(200);
        for (int k = 0; k < length && check.isClean(); k++) {
            change();
            compareAll(k % 8 == 0 || k == length - 1);
        }
        if (!check.isClean()) {
            int from = Math.max(0, calls.size() - 60);
            System.out.println("seed " + seed + ", the last calls:");
            calls.subList(from, calls.size()).forEach(System.out::println);
        }
    }

    // ---- putting a call to both ----

    private static Object answer(Method method, Object target, Object[] args) throws Exception {
        try {
            return method.invoke(target, args);
        } catch (InvocationTargetException e) {
            return e.getCause().getClass();
        }
    }

    private Object both(String name, Object... args) throws Exception {
        Object got = answer(FACE.get(name), x, args);
        Object want = answer(MODEL.get(name), model, args);
        String call = name + Arrays.toString(args);
        if (calls.size() < 100000) {
            calls.add(call + " -> " + got);
        }
        check.dueObject(call, got, want);
        return got;
    }

    private void compare(String name, Object... args) throws Exception {
        Object got = answer(FACE.get(name), x, args);
        Object want = answer(MODEL.get(name), model, args);
        check.dueObject(name + Arrays.toString(args), got, want);
    }

    private void compareAll(boolean everything) throws Exception {
        for (String name : FACE.keySet()) {
            boolean plain = FACE.get(name).getParameterCount() == 0;
            boolean changes = List.of("load", "flush", "requestTemplates", "restartExporter", "deliverAll",
                "receive", "restartCollector").contains(name);
            if (plain && !changes) {
                compare(name);
            }
        }
        for (int k = -1; k < 10; k++) {
            compare("counter", k);
        }
        for (int t = -1; t < 5; t++) {
            compare("isDue", t);
            compare("effectiveFields", t);
            compare("templateAge", t);
        }
        if (everything) {
            compareExporter();
            compareCollector();
        }
    }

    private void compareExporter() throws Exception {
        for (int k = -1; k <= x.cacheSize(); k++) {
            for (int field = -1; field < 9; field++) {
                compare("cached", k, field);
            }
        }
        for (int t = -1; t < 5; t++) {
            compare("templateFields", t);
            compare("recordLength", t);
            for (int place = -1; place < 10; place++) {
                compare("fieldAt", t, place);
            }
        }
        for (int k = -1; k <= x.queueLength(); k++) {
            compare("messageLength", k);
            int length = k >= 0 && k < x.queueLength() ? x.messageLength(k) : 0;
            for (int place = -1; place <= length; place++) {
                compare("messageByte", k, place);
            }
        }
    }

    private void compareCollector() throws Exception {
        for (int what = -1; what < 3; what++) {
            compare("covered", what);
            compare("totalEstimate", what);
            compare("totalMargin", what);
            for (int k = -1; k <= x.keyCount(); k++) {
                for (String name : List.of("raw", "estimate", "lower", "upper")) {
                    compare(name, k, what);
                }
                compare("ranked", k, what);
            }
        }
        for (int k = -1; k <= x.keyCount(); k++) {
            for (int field = -1; field < 5; field++) {
                compare("key", k, field);
            }
        }
        for (int k = 0; k < keys; k++) {
            int[] key = keyNumber(k);
            compare("find", key[0], key[1], key[2], key[3]);
            compare("truth", key[0], key[1], key[2], key[3], k % 3);
        }
    }

    // ---- calls that change something ----

    private int below(int n) {
        return random.nextInt(n);
    }

    private int pick(int... values) {
        return values[below(values.length)];
    }

    private int[] keyNumber(int k) {
        return new int[] {k % 5 * 60, k % 7, k % 3 == 0 ? 65535 : 80 + k / 12, k % 4 == 0 ? 6 : k % 4 == 1 ? 17 : k};
    }

    private void change() throws Exception {
        switch (below(wild ? 30 : 27)) {
            case 0, 1, 2, 3, 4, 5, 6 -> packet();
            case 7, 8 -> packets();
            case 9, 10, 11 -> both("advance", pick(1, 1, 2, 5, 9, 10, 20, 50, 99, 100, 100, 200, 1000, 0, 1001, -1));
            case 12, 13 -> both("flush");
            case 14 -> rateAndDraws();
            case 15 -> support();
            case 16 -> queueCall();
            case 17 -> queueCall();
            case 18 -> both("deliver", below(13) - 1);
            case 19 -> both("deliver", 0);
            case 20 -> both("deliverAll");
            case 21 -> restart();
            case 22 -> forge();
            case 23 -> load();
            case 24 -> both("setAdaptive", below(4) > 0);
            case 25 -> both("requestTemplates");
            case 26 -> burst();
            case 27 -> junk();
            case 28 -> both("truncateInput", below(30) - 3);
            default -> both("appendInput", random.nextInt(), random.nextInt(), random.nextInt(), random.nextInt(),
                random.nextInt());
        }
    }

    private void packet() throws Exception {
        int[] key = keyNumber(below(keys));
        int bytes = pick(1, 40, 100, 1500, 65535, 1 + below(65535));
        if (wild && below(5) == 0) {
            int bad = below(5);
            if (bad < 4) {
                key[bad] = pick(-1, 256, 65536, Integer.MAX_VALUE, Integer.MIN_VALUE);
            } else {
                bytes = pick(0, -1, 65536);
            }
        }
        both("observe", key[0], key[1], key[2], key[3], bytes);
    }

    private void packets() throws Exception {
        int[] key = keyNumber(below(keys));
        int count = wild && below(5) == 0 ? pick(0, -1, 201) : pick(1, 2, 10, 50, 200);
        both("observeMany", key[0], key[1], key[2], key[3], pick(1, 64, 65535), count);
    }

    private void burst() throws Exception {
        int from = below(keys);
        for (int k = 0; k < 14; k++) {
            int[] key = keyNumber((from + k) % keys);
            both("observe", key[0], key[1], key[2], key[3], 1 + k * 100);
            if (below(8) == 0) {
                both("advance", 1);
            }
        }
    }

    private void rateAndDraws() throws Exception {
        if (below(3) == 0) {
            both("setSeed", pick(0, 1, 12345, Integer.MAX_VALUE, -1, Integer.MIN_VALUE, random.nextInt()));
        } else {
            both("setRate", pick(1, 1, 2, 3, 4, 7, 10, 512, 513, 1024, 0, 1025, -5, 1 + below(20)));
        }
    }

    private void support() throws Exception {
        both("setSupport", below(11) - 1, below(3) > 0);
    }

    private void queueCall() throws Exception {
        int index = below(14) - 1;
        switch (below(4)) {
            case 0 -> both("lose", index);
            case 1 -> both("duplicate", below(3));
            case 2 -> both("exchange", below(4), below(5) - 1);
            default -> both("exchange", index, below(14) - 1);
        }
    }

    private void restart() throws Exception {
        if (below(2) == 0) {
            both("restartExporter");
        } else {
            both("restartCollector");
        }
    }

    // ---- input ----

    private void put(byte[] bytes) throws Exception {
        both("truncateInput", 0);
        for (int at = 0; at < bytes.length; at += 20) {
            int[] w = new int[5];
            for (int k = 0; k < 20; k++) {
                w[k / 4] = w[k / 4] << 8 | (at + k < bytes.length ? bytes[at + k] & 255 : 0);
            }
            both("appendInput", w[0], w[1], w[2], w[3], w[4]);
        }
        both("truncateInput", bytes.length);
    }

    private void load() throws Exception {
        StringBuilder text = new StringBuilder();
        int statements = below(8);
        int templates = 0;
        for (int k = 0; k < statements; k++) {
            String statement = statement(templates);
            templates += statement.startsWith("template") ? 1 : 0;
            text.append(statement);
        }
        if (below(4) == 0 && text.length() > 0) {
            damage(text);
        }
        byte[] bytes = text.toString().getBytes(java.nio.charset.StandardCharsets.ISO_8859_1);
        put(Arrays.copyOf(bytes, Math.min(bytes.length, 700)));
        calls.add("the text: " + text);
        both("load");
    }

    private String blank() {
        return below(4) > 0 ? " " : below(2) > 0 ? "\n " : "   ";
    }

    private String statement(int templates) {
        String end = below(3) == 0 ? " ;" : ";\n";
        switch (below(14)) {
            case 0: return "sampling" + blank() + pick(1, 1, 2, 3, 5, 16, 700) + end;
            case 1: return "budget" + blank() + pick(1, 2, 5, 20) + end;
            case 2: return "active" + blank() + pick(1, 5, 20, 100) + end;
            case 3: return "inactive" + blank() + pick(1, 5, 20, 100) + end;
            case 4: return "refresh" + blank() + pick(1, 2, 3, 20) + " " + pick(1, 5, 50, 1000) + end;
            case 5: return "lifetime" + blank() + pick(1, 5, 20, 1000) + end;
            case 6: return "length" + blank() + pick(256, 257, 300, 400, 600) + end;
            case 7: return "assume" + blank() + pick(1, 2, 100, 1024) + end;
            case 8, 9, 10:
                return "template" + blank() + fields() + end;
            case 11, 12:
                return "use" + blank() + pick(6, 17, 0, 255, 7, 3) + " " + below(Math.max(1, templates)) + end;
            default: return "drop" + blank() + FIELDS[below(9)] + end;
        }
    }

    private String fields() {
        List<String> names = new ArrayList<>(Arrays.asList(FIELDS));
        java.util.Collections.shuffle(names, random);
        return String.join(blank(), names.subList(0, 1 + below(9)));
    }

    private void damage(StringBuilder text) {
        int at = below(text.length());
        switch (below(4)) {
            case 0 -> text.setLength(at);
            case 1 -> text.setCharAt(at, (char) below(256));
            case 2 -> text.insert(at, pick(0, 7, 1000000, 99999));
            default -> text.deleteCharAt(at);
        }
    }

    private void junk() throws Exception {
        byte[] bytes = new byte[below(60)];
        random.nextBytes(bytes);
        put(bytes);
        both(below(2) == 0 ? "receive" : "load");
    }

    /** A message of the queue with a change, or one that is made up; then the collector receives it. */
    private void forge() throws Exception {
        byte[] bytes;
        if (model.queueLength() > 0 && below(2) == 0) {
            bytes = model.messageBytes(below(model.queueLength())).clone();
        } else {
            bytes = madeUp();
        }
        int changes = below(3);
        for (int k = 0; k < changes && bytes.length > 0; k++) {
            int at = below(3) == 0 ? below(bytes.length) : Math.min(bytes.length - 1, 4 + below(40));
            bytes[at] = (byte) pick(0, 1, 2, 3, 127, 128, 255, below(256));
        }
        if (below(8) == 0) {
            bytes = Arrays.copyOf(bytes, Math.min(700, Math.max(0, bytes.length + below(9) - 4)));
            if (below(2) == 0 && bytes.length >= 4) {
                bytes[2] = (byte) (bytes.length >> 8);
                bytes[3] = (byte) bytes.length;
            }
        }
        put(bytes);
        both("receive");
    }

    private byte[] madeUp() {
        StringBuilder sets = new StringBuilder();
        int count = below(4);
        for (int k = 0; k < count; k++) {
            sets.append(madeUpSet());
        }
        int sequence = (int) model.expected() + pick(0, 0, 0, 1, 5, -1, -3, Integer.MAX_VALUE, Integer.MIN_VALUE);
        if (below(5) == 0) {
            sequence = pick(0, -1, random.nextInt());
        }
        int time = pick(model.now(), model.now(), model.now() + 1, -1, Integer.MIN_VALUE, random.nextInt());
        return Check.framed(time, sequence, pick(0, 1, 2, 10, Integer.MAX_VALUE, -1), sets.toString());
    }

    private String madeUpSet() {
        StringBuilder body = new StringBuilder();
        int id = pick(2, 2, 256, 257, 258, 259, 256, 3, 255, 260);
        if (id == 2) {
            int templates = below(4);
            for (int k = 0; k < templates; k++) {
                body.append(madeUpTemplate());
            }
        } else {
            int bytes = below(70);
            for (int k = 0; k < bytes; k++) {
                body.append(String.format("%02x", pick(0, 0, 0, 1, 63, 58, 128, 255, below(256))));
            }
        }
        int length = 4 + body.length() / 2 + (below(12) == 0 ? below(9) - 4 : 0);
        return String.format("%04x%04x", id, length & 65535) + body;
    }

    private String madeUpTemplate() {
        int[] sizes = {1, 1, 2, 1, 4, 8, 4, 4, 4};
        StringBuilder body = new StringBuilder();
        List<String> names = Arrays.asList(fields().split("[ \n]+"));
        int id = below(8) == 0 ? pick(255, 260, 0) : 256 + below(4);
        body.append(String.format("%04x%04x", id, names.size() + (below(12) == 0 ? below(3) - 1 : 0)));
        for (String name : names) {
            int field = Arrays.asList(FIELDS).indexOf(name);
            int size = sizes[field] + (below(30) == 0 ? 1 : 0);
            int number = below(30) == 0 ? pick(9, 0, 65535) : field;
            body.append(String.format("%04x%04x", number, size));
        }
        return body.toString();
    }
}
