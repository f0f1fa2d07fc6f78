import java.io.ByteArrayOutputStream;
import java.util.ArrayDeque;
import java.util.ArrayList;
import java.util.Arrays;
import java.util.Comparator;
import java.util.LinkedHashMap;
import java.util.List;
import java.util.Map;
import java.util.TreeMap;

/**
 * The document once more, with the Java library and without a thought of room or speed: random runs of calls
 * are put to it and to FlowExporter, and their answers must be the same.
 */
public final class Model {
    private static final List<String> NAMES =
        List.of("source", "destination", "port", "protocol", "packets", "bytes", "first", "last", "rate");
    private static final int[] SIZES = {1, 1, 2, 1, 4, 8, 4, 4, 4};

    record Key(int source, int destination, int port, int protocol) {
        int part(int field) {
            return new int[] {source, destination, port, protocol}[field];
        }
    }

    static final class Entry {
        Key key;
        long packets;
        long bytes;
        int first;
        int last;
    }

    record Pending(int template, byte[] record) { }

    record Known(List<Integer> fields, int time) { }

    record Seen(int sequence, int time) { }

    static final class Sum {
        long[] raw = new long[2];
        long[] estimate = new long[2];
        double[] variance = new double[2];
    }

    static final class Failure extends Exception {
        final int code;
        final int position;

        Failure(int code, int position) {
            this.code = code;
            this.position = position;
        }
    }

    record Token(char kind, String text, int position) { }

    // ---- the state ----
    private byte[] input = {};
    private int errorCode = 0;
    private int errorPosition = -1;

    private Map<String, int[]> settings;
    private List<List<Integer>> templates;
    private Map<Integer, Integer> uses;
    private boolean[] support;

    private int now;
    private int rate;
    private long x;
    private boolean adaptive;
    private List<Entry> cache;
    private List<Pending> pending;
    private int exportedInInterval;
    private long observed;
    private long sampled;
    private long sent;
    private long unsent;
    private int dropped;
    private long sequence;
    private List<byte[]> queue;
    private int messageNumber;
    private Map<Integer, int[]> templateSent;

    private Map<Integer, Known> known;
    private ArrayDeque<Seen> recent;
    private Long expected;
    private Seen lastSeen;
    private long[] counters;
    private LinkedHashMap<Key, Sum> sums;
    private LinkedHashMap<Key, long[]> truths;

    public Model() {
        load();
    }

    // ---- input ----

    public int appendInput(int w0, int w1, int w2, int w3, int w4) {
        if (input.length + 20 > 700) {
            return -1;
        }
        ByteArrayOutputStream all = new ByteArrayOutputStream();
        all.writeBytes(input);
        for (int w : new int[] {w0, w1, w2, w3, w4}) {
            writeNumber(all, w, 4);
        }
        input = all.toByteArray();
        return input.length;
    }

    public int truncateInput(int length) {
        if (length < 0 || length > input.length) {
            return -1;
        }
        input = Arrays.copyOf(input, length);
        return length;
    }

    private static List<Token> tokens(byte[] text) {
        List<Token> tokens = new ArrayList<>();
        int at = 0;
        while (at < text.length) {
            char c = (char) (text[at] & 255);
            int from = at;
            at++;
            if (c == ' ' || c == '\n') {
                continue;
            }
            char kind = c == ';' ? ';' : '?';
            if (c >= 'a' && c <= 'z') {
                while (at < text.length && text[at] >= 'a' && text[at] <= 'z') {
                    at++;
                }
                kind = at - from > 12 ? '?' : 'w';
            } else if (c >= '0' && c <= '9') {
                while (at < text.length && text[at] >= '0' && text[at] <= '9') {
                    at++;
                }
                kind = at - from > 6 ? '?' : 'n';
            }
            StringBuilder word = new StringBuilder();
            for (int k = from; k < at; k++) {
                word.append((char) (text[k] & 255));
            }
            tokens.add(new Token(kind, word.toString(), from));
        }
        tokens.add(new Token('e', "", text.length));
        return tokens;
    }

    private static final Map<String, int[][]> RANGES = Map.of(
        "sampling", new int[][] {{1, 1024}},
        "budget", new int[][] {{1, 1000}},
        "active", new int[][] {{1, 10000}},
        "inactive", new int[][] {{1, 10000}},
        "refresh", new int[][] {{1, 1000}, {1, 100000}},
        "lifetime", new int[][] {{1, 100000}},
        "length", new int[][] {{256, 600}},
        "assume", new int[][] {{1, 1024}});

    public int load() {
        Map<String, int[]> newSettings = new TreeMap<>();
        newSettings.put("sampling", new int[] {1});
        newSettings.put("budget", new int[] {100});
        newSettings.put("active", new int[] {1000});
        newSettings.put("inactive", new int[] {100});
        newSettings.put("refresh", new int[] {20, 1000});
        newSettings.put("lifetime", new int[] {5000});
        newSettings.put("length", new int[] {512});
        newSettings.put("assume", new int[] {1});
        List<List<Integer>> newTemplates = new ArrayList<>();
        Map<Integer, Integer> newUses = new TreeMap<>();
        boolean[] newSupport = new boolean[9];
        Arrays.fill(newSupport, true);
        int statements = 0;
        List<Token> tokens = tokens(input);
        input = new byte[0];
        try {
            int at = 0;
            while (tokens.get(at).kind != 'e') {
                at = statement(tokens, at, newSettings, newTemplates, newUses, newSupport);
                statements++;
            }
        } catch (Failure f) {
            errorCode = f.code;
            errorPosition = f.position;
            return -2;
        }
        errorCode = 0;
        errorPosition = -1;
        if (newTemplates.isEmpty()) {
            newTemplates.add(List.of(0, 1, 2, 3, 4, 5, 6, 7, 8));
        }
        settings = newSettings;
        templates = newTemplates;
        uses = newUses;
        support = newSupport;
        startAll();
        return statements;
    }

    private static int statement(List<Token> tokens, int start, Map<String, int[]> settings,
            List<List<Integer>> templates, Map<Integer, Integer> uses, boolean[] support) throws Failure {
        int at = start;
        Token word = tokens.get(at++);
        if (word.kind != 'w') {
            throw new Failure(1, word.position);
        }
        if (RANGES.containsKey(word.text)) {
            int[][] ranges = RANGES.get(word.text);
            int[] values = new int[ranges.length];
            for (int k = 0; k < ranges.length; k++) {
                values[k] = number(tokens.get(at++), ranges[k][0], ranges[k][1]);
            }
            settings.put(word.text, values);
        } else if (word.text.equals("template")) {
            if (templates.size() == 4) {
                throw new Failure(4, word.position);
            }
            List<Integer> fields = new ArrayList<>();
            do {
                Token token = tokens.get(at++);
                int field = field(token);
                if (fields.contains(field)) {
                    throw new Failure(3, token.position);
                }
                fields.add(field);
            } while (tokens.get(at).kind != ';');
            templates.add(fields);
        } else if (word.text.equals("use")) {
            int protocol = number(tokens.get(at++), 0, 255);
            uses.put(protocol, number(tokens.get(at++), 0, templates.size() - 1));
        } else if (word.text.equals("drop")) {
            support[field(tokens.get(at++))] = false;
        } else {
            throw new Failure(1, word.position);
        }
        Token end = tokens.get(at++);
        if (end.kind != ';') {
            throw new Failure(1, end.position);
        }
        return at;
    }

    private static int number(Token token, int least, int most) throws Failure {
        if (token.kind != 'n') {
            throw new Failure(1, token.position);
        }
        int value = Integer.parseInt(token.text);
        if (value < least || value > most) {
            throw new Failure(2, token.position);
        }
        return value;
    }

    private static int field(Token token) throws Failure {
        if (token.kind != 'w' || !NAMES.contains(token.text)) {
            throw new Failure(1, token.position);
        }
        return NAMES.indexOf(token.text);
    }

    private void startAll() {
        now = 0;
        rate = settings.get("sampling")[0];
        x = 1;
        adaptive = false;
        cache = new ArrayList<>();
        pending = new ArrayList<>();
        exportedInInterval = 0;
        observed = 0;
        sampled = 0;
        sent = 0;
        unsent = 0;
        dropped = 0;
        sequence = 0;
        queue = new ArrayList<>();
        messageNumber = 0;
        templateSent = new TreeMap<>();
        known = new TreeMap<>();
        recent = new ArrayDeque<>();
        expected = null;
        lastSeen = null;
        counters = new long[9];
        sums = new LinkedHashMap<>();
        truths = new LinkedHashMap<>();
    }

    public int errorCode() {
        return errorCode;
    }

    public int errorPosition() {
        return errorPosition;
    }

    // ---- exporter ----

    public int now() {
        return now;
    }

    public boolean observe(int source, int destination, int port, int protocol, int bytes) {
        return observeMany(source, destination, port, protocol, bytes, 1) > 0;
    }

    public int observeMany(int source, int destination, int port, int protocol, int bytes, int count) {
        int[][] ranges = {{source, 0, 255}, {destination, 0, 255}, {port, 0, 65535}, {protocol, 0, 255},
            {bytes, 1, 65535}, {count, 1, 200}};
        for (int[] r : ranges) {
            if (r[0] < r[1] || r[0] > r[2]) {
                throw new IllegalArgumentException();
            }
        }
        Key key = new Key(source, destination, port, protocol);
        int yes = 0;
        for (int k = 0; k < count; k++) {
            yes += packet(key, bytes) ? 1 : 0;
            sendPending();
        }
        return yes;
    }

    private long draw(int n) {
        x = Math.floorMod(1103515245L * x + 12345L, 1L << 31);
        return x / 256 % n;
    }

    private boolean packet(Key key, int bytes) {
        observed++;
        if (truths.containsKey(key) || truths.size() < 24) {
            long[] truth = truths.computeIfAbsent(key, k -> new long[2]);
            truth[0]++;
            truth[1] += bytes;
        }
        if (rate != 1 && draw(rate) != 0) {
            return false;
        }
        sampled++;
        Entry entry = null;
        for (Entry e : cache) {
            if (e.key.equals(key)) {
                entry = e;
            }
        }
        if (entry == null) {
            if (cache.size() == 12) {
                Entry earliest = cache.stream().min(Comparator.comparingInt(e -> e.last)).get();
                export(earliest);
            }
            entry = new Entry();
            entry.key = key;
            entry.first = now;
            cache.add(entry);
        }
        entry.packets++;
        entry.bytes += bytes;
        entry.last = now;
        return true;
    }

    private List<Integer> effective(int template) {
        return templates.get(template).stream().filter(f -> support[f]).toList();
    }

    private void export(Entry entry) {
        cache.remove(entry);
        exportedInInterval++;
        int template = uses.getOrDefault(entry.key.protocol, 0);
        if (effective(template).isEmpty()) {
            unsent++;
            return;
        }
        ByteArrayOutputStream record = new ByteArrayOutputStream();
        for (int field : effective(template)) {
            writeNumber(record, valueOf(entry, field) % (1L << 32), SIZES[field]);
        }
        pending.add(new Pending(template, record.toByteArray()));
    }

    private long valueOf(Entry entry, int field) {
        return switch (field) {
            case 4 -> entry.packets;
            case 5 -> entry.bytes;
            case 6 -> entry.first;
            case 7 -> entry.last;
            case 8 -> Float.floatToIntBits(1f / rate);
            default -> entry.key.part(field);
        };
    }

    private int exportAll() {
        List<Entry> all = new ArrayList<>(cache);
        all.forEach(this::export);
        return all.size();
    }

    private int changeRate(int n) {
        int exported = n == rate ? 0 : exportAll();
        rate = n;
        return exported;
    }

    public int advance(int ticks) {
        if (ticks < 1 || ticks > 1000) {
            throw new IllegalArgumentException();
        }
        if (now + ticks > 1000000) {
            throw new IllegalStateException();
        }
        int exported = 0;
        for (int k = 0; k < ticks; k++) {
            exported += tick();
        }
        return exported;
    }

    private int tick() {
        now++;
        int exported = 0;
        for (Entry e : new ArrayList<>(cache)) {
            if (e.first + settings.get("active")[0] <= now || e.last + settings.get("inactive")[0] <= now) {
                export(e);
                exported++;
            }
        }
        if (now % 100 == 0) {
            int e = exportedInInterval;
            exportedInInterval = 0;
            int budget = settings.get("budget")[0];
            if (adaptive && e > budget && rate <= 512) {
                exported += changeRate(2 * rate);
            } else if (adaptive && 2 * e < budget && rate >= 2) {
                exported += changeRate(rate / 2);
            }
        }
        sendPending();
        return exported;
    }

    public int flush() {
        int count = exportAll();
        sendPending();
        return count;
    }

    public int cacheSize() {
        return cache.size();
    }

    public long cached(int index, int field) {
        if (index < 0 || index >= cache.size()) {
            throw new IndexOutOfBoundsException();
        }
        if (field < 0 || field > 7) {
            throw new IllegalArgumentException();
        }
        return valueOf(cache.get(index), field);
    }

    public int rate() {
        return rate;
    }

    public int rateBits() {
        return Float.floatToIntBits(1f / rate);
    }

    public int setRate(int rate) {
        if (rate < 1 || rate > 1024) {
            return -1;
        }
        int count = changeRate(rate);
        sendPending();
        return count;
    }

    public boolean setAdaptive(boolean adaptive) {
        boolean before = this.adaptive;
        this.adaptive = adaptive;
        return before;
    }

    public boolean setSeed(int seed) {
        if (seed >= 0) {
            x = seed;
        }
        return seed >= 0;
    }

    // ---- templates ----

    private void checkTemplate(int template) {
        if (template < 0 || template >= templates.size()) {
            throw new IndexOutOfBoundsException();
        }
    }

    private static int mask(List<Integer> fields) {
        return fields.stream().mapToInt(f -> 1 << f).sum();
    }

    public int templateCount() {
        return templates.size();
    }

    public int templateFields(int template) {
        checkTemplate(template);
        return mask(templates.get(template));
    }

    public int effectiveFields(int template) {
        checkTemplate(template);
        return mask(effective(template));
    }

    public int fieldAt(int template, int place) {
        checkTemplate(template);
        List<Integer> fields = templates.get(template);
        return place < 0 || place >= fields.size() ? -1 : fields.get(place);
    }

    public int recordLength(int template) {
        checkTemplate(template);
        return effective(template).stream().mapToInt(f -> SIZES[f]).sum();
    }

    public boolean setSupport(int field, boolean supported) {
        if (field < 0 || field > 8) {
            throw new IllegalArgumentException();
        }
        boolean before = support[field];
        List<List<Integer>> old = new ArrayList<>();
        for (int t = 0; t < templates.size(); t++) {
            old.add(effective(t));
        }
        support[field] = supported;
        for (int t = 0; t < templates.size(); t++) {
            if (!old.get(t).equals(effective(t))) {
                templateSent.remove(t);
            }
        }
        return before;
    }

    public void requestTemplates() {
        templateSent.clear();
    }

    public boolean isDue(int template) {
        checkTemplate(template);
        if (effective(template).isEmpty()) {
            return false;
        }
        int[] last = templateSent.get(template);
        int[] refresh = settings.get("refresh");
        return last == null || messageNumber - last[0] >= refresh[0] || now - last[1] >= refresh[1];
    }

    public int restartExporter() {
        int count = cache.size();
        cache.clear();
        pending.clear();
        sequence = 0;
        templateSent.clear();
        return count;
    }

    public long observed() {
        return observed;
    }

    public long sampled() {
        return sampled;
    }

    public long sent() {
        return sent;
    }

    public long unsent() {
        return unsent;
    }

    public int dropped() {
        return dropped;
    }

    public long sequence() {
        return sequence % (1L << 32);
    }

    // ---- messages ----

    private static void writeNumber(ByteArrayOutputStream out, long value, int size) {
        for (int k = size - 1; k >= 0; k--) {
            out.write((int) (value >>> 8 * k) & 255);
        }
    }

    private void sendPending() {
        while (!pending.isEmpty()) {
            sendOne();
        }
    }

    private void sendOne() {
        messageNumber++;
        ByteArrayOutputStream body = new ByteArrayOutputStream();
        ByteArrayOutputStream described = new ByteArrayOutputStream();
        List<Integer> dueOnes = new ArrayList<>();
        messageNumber--;
        for (int t = 0; t < templates.size(); t++) {
            if (isDue(t)) {
                dueOnes.add(t);
            }
        }
        messageNumber++;
        for (int t : dueOnes) {
            templateSent.put(t, new int[] {messageNumber, now});
            writeNumber(described, 256 + t, 2);
            writeNumber(described, effective(t).size(), 2);
            for (int f : effective(t)) {
                writeNumber(described, f, 2);
                writeNumber(described, SIZES[f], 2);
            }
        }
        if (!dueOnes.isEmpty()) {
            writeNumber(body, 2, 2);
            writeNumber(body, described.size() + 4, 2);
            body.writeBytes(described.toByteArray());
        }
        // Which records go into it: found with lengths alone, before a byte is written.
        int length = 16 + body.size();
        int count = 0;
        for (int k = 0; k < pending.size(); k++) {
            boolean sameSet = k > 0 && pending.get(k).template == pending.get(k - 1).template;
            int more = pending.get(k).record.length + (sameSet ? 0 : 4);
            if (length + more > settings.get("length")[0]) {
                break;
            }
            length += more;
            count++;
        }
        int from = 0;
        while (from < count) {
            int to = from;
            ByteArrayOutputStream data = new ByteArrayOutputStream();
            while (to < count && pending.get(to).template == pending.get(from).template) {
                data.writeBytes(pending.get(to).record);
                to++;
            }
            writeNumber(body, 256 + pending.get(from).template, 2);
            writeNumber(body, data.size() + 4, 2);
            body.writeBytes(data.toByteArray());
            from = to;
        }
        ByteArrayOutputStream message = new ByteArrayOutputStream();
        writeNumber(message, 10, 2);
        writeNumber(message, 16 + body.size(), 2);
        writeNumber(message, now, 4);
        writeNumber(message, sequence, 4);
        writeNumber(message, count, 4);
        message.writeBytes(body.toByteArray());
        pending.subList(0, count).clear();
        sequence += count;
        sent += count;
        if (queue.size() < 12) {
            queue.add(message.toByteArray());
        } else {
            dropped++;
        }
    }

    private void checkMessage(int index) {
        if (index < 0 || index >= queue.size()) {
            throw new IndexOutOfBoundsException();
        }
    }

    byte[] messageBytes(int index) {
        return queue.get(index);
    }

    public int queueLength() {
        return queue.size();
    }

    public int messageLength(int index) {
        checkMessage(index);
        return queue.get(index).length;
    }

    public int messageByte(int index, int place) {
        checkMessage(index);
        byte[] message = queue.get(index);
        return place < 0 || place >= message.length ? -1 : message[place] & 255;
    }

    public int deliver(int index) {
        checkMessage(index);
        return collect(queue.remove(index));
    }

    public int deliverAll() {
        int count = 0;
        while (!queue.isEmpty()) {
            count += collect(queue.remove(0));
        }
        return count;
    }

    public int lose(int index) {
        checkMessage(index);
        return queue.remove(index).length;
    }

    public boolean duplicate(int index) {
        checkMessage(index);
        return queue.size() < 12 && queue.add(queue.get(index).clone());
    }

    public boolean exchange(int index, int other) {
        checkMessage(index);
        checkMessage(other);
        byte[] one = queue.get(index);
        queue.set(index, queue.get(other));
        queue.set(other, one);
        return index != other;
    }

    // ---- collector ----

    private static long read(byte[] bytes, int at, int size) {
        long value = 0;
        for (int k = 0; k < size; k++) {
            value = value * 256 + (bytes[at + k] & 255);
        }
        return value;
    }

    private int collect(byte[] m) {
        counters[8]++;
        if (m.length < 16 || read(m, 0, 2) != 10 || read(m, 2, 2) != m.length) {
            counters[4]++;
            return 0;
        }
        int time = (int) read(m, 4, 4);
        int number = (int) read(m, 8, 4);
        long records = read(m, 12, 4);
        if (records >= 1L << 31) {
            records = 0;
        }
        Seen seen = new Seen(number, time);
        if (recent.contains(seen)) {
            counters[2]++;
            return 0;
        }
        boolean late = false;
        if (expected == null) {
            expected = (long) number & 0xFFFFFFFFL;
        } else {
            int d = (int) (number - expected);
            if (d > 0) {
                counters[0] += d;
            } else if (d < 0 && number == 0 && time > lastSeen.time) {
                counters[5]++;
            } else if (d < 0) {
                late = true;
                counters[1]++;
                counters[0] = Math.max(0, counters[0] - records);
            }
        }
        if (!late) {
            expected = (number & 0xFFFFFFFFL) + records & 0xFFFFFFFFL;
        }
        recent.addLast(seen);
        if (recent.size() > 8) {
            recent.removeFirst();
        }
        lastSeen = seen;
        return readSets(m);
    }

    private int readSets(byte[] m) {
        int decoded = 0;
        int at = 16;
        while (m.length - at >= 4 && read(m, at + 2, 2) >= 4 && read(m, at + 2, 2) <= m.length - at) {
            int id = (int) read(m, at, 2);
            int length = (int) read(m, at + 2, 2);
            byte[] content = Arrays.copyOfRange(m, at + 4, at + length);
            at += length;
            if (id == 2) {
                readTemplateSet(content);
            } else if (id >= 256 && id <= 259) {
                decoded += readDataSet(content, id - 256);
            }
        }
        if (at < m.length) {
            counters[4]++;
        }
        return decoded;
    }

    private void readTemplateSet(byte[] c) {
        int at = 0;
        while (c.length - at >= 4) {
            int id = (int) read(c, at, 2);
            int count = (int) read(c, at + 2, 2);
            if (c.length - at - 4 < 4 * count || id < 256 || id > 259 || count == 0) {
                return;
            }
            List<Integer> fields = new ArrayList<>();
            for (int k = 0; k < count; k++) {
                int field = (int) read(c, at + 4 + 4 * k, 2);
                if (field > 8 || fields.contains(field) || read(c, at + 6 + 4 * k, 2) != SIZES[field]) {
                    return;
                }
                fields.add(field);
            }
            known.put(id - 256, new Known(fields, now));
            at += 4 + 4 * count;
        }
    }

    private int readDataSet(byte[] c, int template) {
        Known k = known.get(template);
        if (k == null || now - k.time > settings.get("lifetime")[0]) {
            counters[3]++;
            return 0;
        }
        int size = k.fields.stream().mapToInt(f -> SIZES[f]).sum();
        int count = c.length / size;
        for (int r = 0; r < count; r++) {
            Map<Integer, Long> values = new TreeMap<>();
            int at = r * size;
            for (int f : k.fields) {
                values.put(f, read(c, at, SIZES[f]));
                at += SIZES[f];
            }
            counters[7]++;
            addRecord(values);
        }
        return count;
    }

    private void addRecord(Map<Integer, Long> values) {
        Key key = new Key(values.getOrDefault(0, 0L).intValue(), values.getOrDefault(1, 0L).intValue(),
            values.getOrDefault(2, 0L).intValue(), values.getOrDefault(3, 0L).intValue());
        long packets = values.getOrDefault(4, 0L);
        long bytes = values.getOrDefault(5, 0L);
        int n = settings.get("assume")[0];
        if (values.containsKey(8)) {
            float p = Float.intBitsToFloat(values.get(8).intValue());
            if (p > 0 && p <= 1) {
                n = Math.min(1024, (int) (1f / p + 0.5f));
            }
        }
        if (!sums.containsKey(key) && sums.size() == 24) {
            counters[6]++;
            return;
        }
        Sum sum = sums.computeIfAbsent(key, k -> new Sum());
        sum.raw[0] += packets;
        sum.raw[1] += bytes;
        sum.estimate[0] += n * packets;
        sum.estimate[1] += n * bytes;
        double dn = n;
        sum.variance[0] = sum.variance[0] + dn * (dn - 1) * packets;
        sum.variance[1] = sum.variance[1] + (packets == 0 ? 0 : dn * (dn - 1) * bytes * bytes / packets);
    }

    public int receive() {
        byte[] message = input;
        input = new byte[0];
        return collect(message);
    }

    public int knownTemplates() {
        int mask = 0;
        for (Map.Entry<Integer, Known> e : known.entrySet()) {
            if (now - e.getValue().time <= settings.get("lifetime")[0]) {
                mask |= 1 << e.getKey();
            }
        }
        return mask;
    }

    public int templateAge(int template) {
        if (template < 0 || template > 3) {
            throw new IllegalArgumentException();
        }
        return known.containsKey(template) ? now - known.get(template).time : -1;
    }

    public long expected() {
        return expected == null ? -1 : expected;
    }

    public long counter(int counter) {
        if (counter < 0 || counter > 8) {
            throw new IllegalArgumentException();
        }
        return counters[counter];
    }

    public double lossRate() {
        if (counters[0] + counters[7] == 0) {
            throw new ArithmeticException();
        }
        return (double) counters[0] / (counters[0] + counters[7]);
    }

    public int restartCollector() {
        int count = known.size();
        known.clear();
        recent.clear();
        expected = null;
        lastSeen = null;
        return count;
    }

    // ---- keys ----

    private Sum sumAt(int index) {
        if (index < 0 || index >= sums.size()) {
            throw new IndexOutOfBoundsException();
        }
        return new ArrayList<>(sums.values()).get(index);
    }

    private static void checkWhat(int what) {
        if (what < 0 || what > 1) {
            throw new IllegalArgumentException();
        }
    }

    public int keyCount() {
        return sums.size();
    }

    public int key(int index, int field) {
        sumAt(index);
        if (field < 0 || field > 3) {
            throw new IllegalArgumentException();
        }
        return new ArrayList<>(sums.keySet()).get(index).part(field);
    }

    public int find(int source, int destination, int port, int protocol) {
        return new ArrayList<>(sums.keySet()).indexOf(new Key(source, destination, port, protocol));
    }

    public long raw(int index, int what) {
        Sum sum = sumAt(index);
        checkWhat(what);
        return sum.raw[what];
    }

    public long estimate(int index, int what) {
        Sum sum = sumAt(index);
        checkWhat(what);
        return sum.estimate[what];
    }

    public double lower(int index, int what) {
        Sum sum = sumAt(index);
        checkWhat(what);
        return Math.max((double) sum.raw[what], sum.estimate[what] - 1.96 * Math.sqrt(sum.variance[what]));
    }

    public double upper(int index, int what) {
        Sum sum = sumAt(index);
        checkWhat(what);
        return sum.estimate[what] + 1.96 * Math.sqrt(sum.variance[what]);
    }

    public long truth(int source, int destination, int port, int protocol, int what) {
        checkWhat(what);
        return truths.getOrDefault(new Key(source, destination, port, protocol), new long[2])[what];
    }

    public int covered(int what) {
        checkWhat(what);
        int count = 0;
        int index = 0;
        for (Key key : sums.keySet()) {
            double value = truths.getOrDefault(key, new long[2])[what];
            if (value >= lower(index, what) && value <= upper(index, what)) {
                count++;
            }
            index++;
        }
        return count;
    }

    public long totalEstimate(int what) {
        checkWhat(what);
        return sums.values().stream().mapToLong(s -> s.estimate[what]).sum();
    }

    public double totalMargin(int what) {
        checkWhat(what);
        double total = 0;
        for (Sum s : sums.values()) {
            total += s.variance[what];
        }
        return 1.96 * Math.sqrt(total);
    }

    public int ranked(int place, int what) {
        checkWhat(what);
        List<Integer> order = new ArrayList<>();
        for (int k = 0; k < sums.size(); k++) {
            order.add(k);
        }
        order.sort(Comparator.comparingLong((Integer k) -> sumAt(k).estimate[what]).reversed());
        return place < 0 || place >= order.size() ? -1 : order.get(place);
    }
}
