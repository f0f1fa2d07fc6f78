import java.util.Arrays;

/** A flow exporter, the queue its messages go through, and the collector that receives them. */
public final class FlowExporter {
    public static final int NONE = -1;
    public static final int TEXT_ERROR = -2;

    private static final int MOST_INPUT = 700;
    private static final int MOST_FLOWS = 12;
    private static final int MOST_MESSAGES = 12;
    private static final int MOST_KEYS = 24;
    private static final int MOST_TEMPLATES = 4;
    private static final int MOST_RATE = 1024;
    private static final int MOST_LENGTH = 600;
    private static final int MOST_TIME = 1000000;
    private static final int PROTOCOLS = 256;

    private static final int FIELDS = 9;
    private static final int ALL_FIELDS = 511;
    private static final int PROTOCOL = 3;
    private static final int PACKETS = 4;
    private static final int BYTES = 5;
    private static final int FIRST = 6;
    private static final int LAST = 7;
    private static final int RATE = 8;
    private static final int MOST_RECORD = 29;
    private static final int[] FIELD_BYTES = {1, 1, 2, 1, 4, 8, 4, 4, 4};
    private static final String FIELD_WORDS = "source destination port protocol packets bytes first last rate";

    private static final int SAMPLING = 0;
    private static final int BUDGET = 1;
    private static final int ACTIVE = 2;
    private static final int INACTIVE = 3;
    private static final int REFRESH_MESSAGES = 4;
    private static final int REFRESH_TICKS = 5;
    private static final int LIFETIME = 6;
    private static final int LENGTH = 7;
    private static final int ASSUME = 8;
    private static final int TEMPLATE = 9;
    private static final int USE = 10;
    private static final int DROP = 11;
    private static final int SETTINGS = 9;
    private static final int[] LEAST = {1, 1, 1, 1, 1, 1, 1, 256, 1};
    private static final int[] MOST = {1024, 1000, 10000, 10000, 1000, 100000, 100000, 600, 1024};
    private static final int[] USUAL = {1, 100, 1000, 100, 20, 1000, 5000, 512, 1};
    // The dash is no word: it keeps the place of the second number of refresh,
    // so that each word has the number of its setting.
    private static final String STATEMENT_WORDS =
        "sampling budget active inactive refresh - lifetime length assume template use drop";

    private static final int VERSION = 10;
    private static final int HEADER = 16;
    private static final int SET_HEADER = 4;
    private static final int TEMPLATE_SET = 2;
    private static final int FIRST_ID = 256;
    private static final long UNSIGNED = 0xFFFFFFFFL;

    private static final int LOST = 0;
    private static final int LATE = 1;
    private static final int DUPLICATES = 2;
    private static final int UNDECODABLE = 3;
    private static final int MALFORMED = 4;
    private static final int RESTARTS = 5;
    private static final int OVERFLOW = 6;
    private static final int DECODED = 7;
    private static final int RECEIVED = 8;
    private static final int COUNTERS = 9;

    private final Message input;
    private final Config config;
    private final Parser parser;
    private final Queue queue;
    private final Sender sender;
    private final Exporter exporter;
    private final Collector collector;
    private final Sums sums;

    public FlowExporter() {
        input = new Message(MOST_INPUT);
        config = new Config();
        parser = new Parser(input);
        queue = new Queue();
        sender = new Sender(config, queue);
        exporter = new Exporter(config, sender);
        sums = new Sums();
        collector = new Collector(config, sums);
        // The input is empty yet, and an empty text has no error.
        parser.readText();
        startAnew();
    }

    /** Begins anew with what the parser has read. */
    private void startAnew() {
        config.copyFrom(parser.config);
        queue.clear();
        sender.clear();
        exporter.clear();
        sums.size = 0;
        collector.clear();
    }

    // ---- the input ----

    public int appendInput(int w0, int w1, int w2, int w3, int w4) {
        if (input.length + 20 > MOST_INPUT) {
            return NONE;
        }
        input.put(w0, 4);
        input.put(w1, 4);
        input.put(w2, 4);
        input.put(w3, 4);
        input.put(w4, 4);
        return input.length;
    }

    public int truncateInput(int length) {
        if (length < 0 || length > input.length) {
            return NONE;
        }
        input.length = length;
        return length;
    }

    public int load() {
        int statements = parser.readText();
        input.length = 0;
        if (statements >= 0) {
            startAnew();
        }
        return statements;
    }

    public int errorCode() {
        return parser.code;
    }

    public int errorPosition() {
        return parser.position;
    }

    // ---- the exporter ----

    public int now() {
        return exporter.now;
    }

    private static void requirePackets(long key, int bytes, int count) {
        if (key == NONE || bytes < 1 || bytes > 65535 || count < 1 || count > 200) {
            throw new IllegalArgumentException();
        }
    }

    public boolean observe(int source, int destination, int port, int protocol, int bytes)
            throws IllegalArgumentException {
        long key = Flow.keyOf(source, destination, port, protocol);
        requirePackets(key, bytes, 1);
        return exporter.takePackets(key, bytes, 1) == 1;
    }

    public int observeMany(int source, int destination, int port, int protocol, int bytes, int count)
            throws IllegalArgumentException {
        long key = Flow.keyOf(source, destination, port, protocol);
        requirePackets(key, bytes, count);
        return exporter.takePackets(key, bytes, count);
    }

    public int advance(int ticks) throws IllegalArgumentException, IllegalStateException {
        if (ticks < 1 || ticks > 1000) {
            throw new IllegalArgumentException();
        }
        if (exporter.now + ticks > MOST_TIME) {
            throw new IllegalStateException();
        }
        int before = exporter.exports;
        for (int k = 0; k < ticks; k++) {
            exporter.tick();
        }
        return exporter.exports - before;
    }

    public int flush() {
        return exporter.exportAllAndSend();
    }

    public int cacheSize() {
        return exporter.cache.size;
    }

    public long cached(int index, int field) throws IndexOutOfBoundsException, IllegalArgumentException {
        if (index < 0 || index >= exporter.cache.size) {
            throw new IndexOutOfBoundsException();
        }
        if (field < 0 || field > LAST) {
            throw new IllegalArgumentException();
        }
        return exporter.cache.flowAt(index).value(field);
    }

    public int rate() {
        return exporter.rate;
    }

    public int rateBits() {
        return Exporter.bitsOfInverse(exporter.rate);
    }

    public int setRate(int rate) {
        if (rate < 1 || rate > MOST_RATE) {
            return NONE;
        }
        if (rate == exporter.rate) {
            return 0;
        }
        int exported = exporter.exportAllAndSend();
        exporter.rate = rate;
        return exported;
    }

    public boolean setAdaptive(boolean adaptive) {
        boolean before = exporter.adaptive;
        exporter.adaptive = adaptive;
        return before;
    }

    public boolean setSeed(int seed) {
        if (seed < 0) {
            return false;
        }
        exporter.drawState = seed;
        return true;
    }

    public int restartExporter() {
        int flows = exporter.cache.size;
        exporter.cache.size = 0;
        sender.restart();
        return flows;
    }

    public long observed() {
        return exporter.observedPackets;
    }

    public long sampled() {
        return exporter.sampledPackets;
    }

    public long unsent() {
        return exporter.unsentFlows;
    }

    // ---- the templates ----

    private void requireTemplate(int template) {
        if (template < 0 || template >= config.templates) {
            throw new IndexOutOfBoundsException();
        }
    }

    public int templateCount() {
        return config.templates;
    }

    public int templateFields(int template) throws IndexOutOfBoundsException {
        requireTemplate(template);
        return config.template(template).set;
    }

    public int effectiveFields(int template) throws IndexOutOfBoundsException {
        requireTemplate(template);
        return config.effective(template).set;
    }

    public int fieldAt(int template, int place) throws IndexOutOfBoundsException {
        requireTemplate(template);
        return config.template(template).field(place);
    }

    public int recordLength(int template) throws IndexOutOfBoundsException {
        requireTemplate(template);
        return config.effective(template).recordBytes;
    }

    public boolean setSupport(int field, boolean supported) throws IllegalArgumentException {
        if (field < 0 || field >= FIELDS) {
            throw new IllegalArgumentException();
        }
        boolean before = (config.supported >> field & 1) == 1;
        if (before != supported) {
            config.support(config.supported ^ 1 << field);
            sender.forgetTemplatesWith(field);
        }
        return before;
    }

    public void requestTemplates() {
        sender.forgetTemplates();
    }

    public boolean isDue(int template) throws IndexOutOfBoundsException {
        requireTemplate(template);
        return sender.mustSend(template, exporter.now);
    }

    // ---- the messages ----

    private void requireMessage(int index) {
        if (index < 0 || index >= queue.size) {
            throw new IndexOutOfBoundsException();
        }
    }

    public long sent() {
        return sender.sentRecords;
    }

    public int dropped() {
        return queue.droppedMessages;
    }

    public long sequence() {
        return sender.sequenceNumber & UNSIGNED;
    }

    public int queueLength() {
        return queue.size;
    }

    public int messageLength(int index) throws IndexOutOfBoundsException {
        requireMessage(index);
        return queue.messageAt(index).length;
    }

    public int messageByte(int index, int place) throws IndexOutOfBoundsException {
        requireMessage(index);
        return queue.messageAt(index).byteAt(place);
    }

    public int deliver(int index) throws IndexOutOfBoundsException {
        requireMessage(index);
        return collector.take(queue.takeOut(index), exporter.now);
    }

    public int deliverAll() {
        int decoded = 0;
        for (int left = queue.size; left > 0; left--) {
            decoded += collector.take(queue.takeOut(0), exporter.now);
        }
        return decoded;
    }

    public int lose(int index) throws IndexOutOfBoundsException {
        requireMessage(index);
        return queue.takeOut(index).length;
    }

    public boolean duplicate(int index) throws IndexOutOfBoundsException {
        requireMessage(index);
        if (queue.size == MOST_MESSAGES) {
            return false;
        }
        Message message = queue.messageAt(index);
        queue.freeMessage().putFrom(message, 0, message.length);
        queue.addFreeMessage();
        return true;
    }

    public boolean exchange(int index, int other) throws IndexOutOfBoundsException {
        requireMessage(index);
        requireMessage(other);
        if (index == other) {
            return false;
        }
        queue.swap(index, other);
        return true;
    }

    // ---- the collector ----

    public int receive() {
        int decoded = collector.take(input, exporter.now);
        input.length = 0;
        return decoded;
    }

    public int knownTemplates() {
        return collector.usableTemplates(exporter.now);
    }

    public int templateAge(int template) throws IllegalArgumentException {
        if (template < 0 || template >= MOST_TEMPLATES) {
            throw new IllegalArgumentException();
        }
        return collector.ageOf(template, exporter.now);
    }

    public long expected() {
        return collector.hasStarted() ? collector.expectedNumber & UNSIGNED : NONE;
    }

    public long counter(int counter) throws IllegalArgumentException {
        if (counter < 0 || counter >= COUNTERS) {
            throw new IllegalArgumentException();
        }
        return collector.counters[counter];
    }

    public double lossRate() throws ArithmeticException {
        long lost = collector.counters[LOST];
        long all = lost + collector.counters[DECODED];
        if (all == 0) {
            throw new ArithmeticException();
        }
        return (double) lost / (double) all;
    }

    public int restartCollector() {
        return collector.restart();
    }

    // ---- the keys and their estimates ----

    private static void requireWhat(int what) {
        if (what != 0 && what != 1) {
            throw new IllegalArgumentException();
        }
    }

    private void requireKey(int index) {
        if (index < 0 || index >= sums.size) {
            throw new IndexOutOfBoundsException();
        }
    }

    public int keyCount() {
        return sums.size;
    }

    public int key(int index, int field) throws IndexOutOfBoundsException, IllegalArgumentException {
        requireKey(index);
        if (field < 0 || field > 3) {
            throw new IllegalArgumentException();
        }
        return Flow.partOf(sums.keys[index], field);
    }

    public int find(int source, int destination, int port, int protocol) {
        return sums.indexOf(Flow.keyOf(source, destination, port, protocol));
    }

    public long raw(int index, int what) throws IndexOutOfBoundsException, IllegalArgumentException {
        requireKey(index);
        requireWhat(what);
        return sums.raws[what][index];
    }

    public long estimate(int index, int what) throws IndexOutOfBoundsException, IllegalArgumentException {
        requireKey(index);
        requireWhat(what);
        return sums.estimates[what][index];
    }

    public double lower(int index, int what) throws IndexOutOfBoundsException, IllegalArgumentException {
        requireKey(index);
        requireWhat(what);
        return sums.lowerBound(index, what);
    }

    public double upper(int index, int what) throws IndexOutOfBoundsException, IllegalArgumentException {
        requireKey(index);
        requireWhat(what);
        return sums.upperBound(index, what);
    }

    public long truth(int source, int destination, int port, int protocol, int what)
            throws IllegalArgumentException {
        requireWhat(what);
        return exporter.trueValue(Flow.keyOf(source, destination, port, protocol), what);
    }

    public int covered(int what) throws IllegalArgumentException {
        requireWhat(what);
        int count = 0;
        for (int k = 0; k < sums.size; k++) {
            double value = (double) exporter.trueValue(sums.keys[k], what);
            if (sums.lowerBound(k, what) <= value && value <= sums.upperBound(k, what)) {
                count++;
            }
        }
        return count;
    }

    public long totalEstimate(int what) throws IllegalArgumentException {
        requireWhat(what);
        return sums.estimateOfAll(what);
    }

    public double totalMargin(int what) throws IllegalArgumentException {
        requireWhat(what);
        return sums.marginOfAll(what);
    }

    public int ranked(int place, int what) throws IllegalArgumentException {
        requireWhat(what);
        return sums.indexWithRank(place, what);
    }

    /** A row of different fields, with the set of them and the length of a record that has them. */
    private static final class Template {
        private final int[] fields = new int[FIELDS];
        int size = 0;
        int set = 0;
        int recordBytes = 0;

        void clear() {
            size = 0;
            set = 0;
            recordBytes = 0;
        }

        boolean has(int field) {
            return field >= 0 && field < FIELDS && (set >> field & 1) == 1;
        }

        void addField(int field) {
            if (field >= 0 && field < FIELDS && size < FIELDS && (set >> field & 1) == 0) {
                fields[size] = field;
                size++;
                set |= 1 << field;
                recordBytes += FIELD_BYTES[field];
            }
        }

        int field(int place) {
            return place >= 0 && place < size ? fields[place] : NONE;
        }

        /** Takes over those fields of the other one that are in the set of chosen ones. */
        void copyFrom(Template other, int chosen) {
            clear();
            for (int place = 0; place < other.size; place++) {
                int field = other.field(place);
                if ((chosen >> field & 1) == 1) {
                    addField(field);
                }
            }
        }
    }

    /** What a configuration text says, and which fields the collector supports now. */
    private static final class Config {
        private final int[] settings = new int[SETTINGS];
        private final int[] templateOfProtocol = new int[PROTOCOLS];
        private final Template[] whole = new Template[MOST_TEMPLATES];
        private final Template[] effective = new Template[MOST_TEMPLATES];
        int templates = 0;
        int supported = ALL_FIELDS;

        Config() {
            for (int k = 0; k < MOST_TEMPLATES; k++) {
                whole[k] = new Template();
                effective[k] = new Template();
            }
        }

        void clear() {
            System.arraycopy(USUAL, 0, settings, 0, SETTINGS);
            Arrays.fill(templateOfProtocol, 0);
            for (int k = 0; k < MOST_TEMPLATES; k++) {
                whole[k].clear();
            }
            templates = 0;
            supported = ALL_FIELDS;
        }

        void copyFrom(Config other) {
            System.arraycopy(other.settings, 0, settings, 0, SETTINGS);
            System.arraycopy(other.templateOfProtocol, 0, templateOfProtocol, 0, PROTOCOLS);
            for (int k = 0; k < MOST_TEMPLATES; k++) {
                whole[k].copyFrom(other.whole[k], ALL_FIELDS);
            }
            templates = other.templates;
            support(other.supported);
        }

        void support(int set) {
            supported = set;
            for (int k = 0; k < MOST_TEMPLATES; k++) {
                effective[k].copyFrom(whole[k], set);
            }
        }

        /** Adds a template with all fields, which is there if the text has none. */
        void addUsualTemplate() {
            templates = 1;
            for (int field = 0; field < FIELDS; field++) {
                whole[0].addField(field);
            }
        }

        Template template(int number) {
            return whole[number >= 0 && number < MOST_TEMPLATES ? number : 0];
        }

        /** The template with those of its fields that the collector supports. */
        Template effective(int number) {
            return effective[number >= 0 && number < MOST_TEMPLATES ? number : 0];
        }

        void set(int setting, int value) {
            if (setting >= 0 && setting < SETTINGS) {
                settings[setting] = value;
            }
        }

        int get(int setting) {
            return setting >= 0 && setting < SETTINGS ? settings[setting] : 0;
        }

        void use(int protocol, int template) {
            if (protocol >= 0 && protocol < PROTOCOLS) {
                templateOfProtocol[protocol] = template;
            }
        }

        int templateOf(int protocol) {
            return protocol >= 0 && protocol < PROTOCOLS ? templateOfProtocol[protocol] : 0;
        }
    }

    /** Reads a configuration text into a configuration of its own, so that an error leaves the other one alone. */
    private static final class Parser {
        private static final int END = 0;
        private static final int BLANK = 1;
        private static final int WORD = 2;
        private static final int NUMBER = 3;
        private static final int SEMICOLON = 4;
        private static final int NO_TOKEN = 5;
        private static final int MOST_LETTERS = 12;
        private static final int MOST_DIGITS = 6;

        private static final int SYNTAX = 1;
        private static final int RANGE = 2;
        private static final int TWICE = 3;
        private static final int LIMIT = 4;

        final Config config = new Config();
        int code = 0;
        int position = NONE;
        private final Message text;
        private int next = 0;
        private int kind = END;
        private int start = 0;
        private int number = 0;

        Parser(Message text) {
            this.text = text;
        }

        int readText() {
            config.clear();
            code = 0;
            position = NONE;
            next = 0;
            for (int statements = 0; statements <= MOST_INPUT; statements++) {
                nextToken();
                if (kind == END) {
                    if (config.templates == 0) {
                        config.addUsualTemplate();
                    }
                    return statements;
                }
                if (!readStatement()) {
                    return TEXT_ERROR;
                }
            }
            return TEXT_ERROR;
        }

        private boolean fail(int error) {
            code = error;
            position = start;
            return false;
        }

        private boolean readStatement() {
            int word = wordIn(STATEMENT_WORDS);
            if (word == NONE) {
                return fail(SYNTAX);
            }
            if (word == TEMPLATE) {
                return readTemplate();
            }
            if (word == USE) {
                return readUse();
            }
            if (word == DROP) {
                return readDrop();
            }
            if (!readSetting(word) || word == REFRESH_MESSAGES && !readSetting(REFRESH_TICKS)) {
                return false;
            }
            return readSemicolon();
        }

        private boolean readSetting(int setting) {
            if (setting < 0 || setting >= LEAST.length || setting >= MOST.length) {
                return fail(SYNTAX);
            }
            if (!readNumber(LEAST[setting], MOST[setting])) {
                return false;
            }
            config.set(setting, number);
            return true;
        }

        private boolean readTemplate() {
            if (config.templates >= MOST_TEMPLATES) {
                return fail(LIMIT);
            }
            Template template = config.template(config.templates);
            for (int fields = 0; fields <= FIELDS; fields++) {
                nextToken();
                if (fields > 0 && kind == SEMICOLON) {
                    config.templates++;
                    return true;
                }
                int field = wordIn(FIELD_WORDS);
                if (field == NONE) {
                    return fail(SYNTAX);
                }
                if (template.has(field)) {
                    return fail(TWICE);
                }
                template.addField(field);
            }
            return fail(SYNTAX);
        }

        private boolean readUse() {
            if (!readNumber(0, PROTOCOLS - 1)) {
                return false;
            }
            int protocol = number;
            if (!readNumber(0, config.templates - 1)) {
                return false;
            }
            config.use(protocol, number);
            return readSemicolon();
        }

        private boolean readDrop() {
            nextToken();
            int field = wordIn(FIELD_WORDS);
            if (field == NONE) {
                return fail(SYNTAX);
            }
            config.supported &= ~(1 << field);
            return readSemicolon();
        }

        private boolean readNumber(int least, int most) {
            nextToken();
            if (kind != NUMBER) {
                return fail(SYNTAX);
            }
            number = 0;
            for (int k = start; k < next; k++) {
                number = 10 * number + text.byteAt(k) - '0';
            }
            return number >= least && number <= most || fail(RANGE);
        }

        private boolean readSemicolon() {
            nextToken();
            return kind == SEMICOLON || fail(SYNTAX);
        }

        /** Returns the place of the present token in a list of words, NONE if it is none of them. */
        private int wordIn(String words) {
            if (kind != WORD) {
                return NONE;
            }
            int place = 0;
            int from = 0;
            for (int k = 0; k <= words.length(); k++) {
                if (k == words.length() || words.charAt(k) == ' ') {
                    if (isToken(words, from, k)) {
                        return place;
                    }
                    place++;
                    from = k + 1;
                }
            }
            return NONE;
        }

        private boolean isToken(String words, int from, int to) {
            if (to - from != next - start) {
                return false;
            }
            for (int k = from; k < to && k < words.length(); k++) {
                if (words.charAt(k) != text.byteAt(start + k - from)) {
                    return false;
                }
            }
            return true;
        }

        private void nextToken() {
            while (next < text.length && kindOf(text.byteAt(next)) == BLANK) {
                next++;
            }
            start = next;
            kind = kindOf(text.byteAt(start));
            if (kind == SEMICOLON || kind == NO_TOKEN) {
                next++;
                return;
            }
            while (next < text.length && kindOf(text.byteAt(next)) == kind) {
                next++;
            }
            int most = kind == NUMBER ? MOST_DIGITS : MOST_LETTERS;
            if (next - start > most) {
                kind = NO_TOKEN;
            }
        }

        private static int kindOf(int sign) {
            if (sign == NONE) {
                return END;
            }
            if (sign == ' ' || sign == '\n') {
                return BLANK;
            }
            if (sign >= 'a' && sign <= 'z') {
                return WORD;
            }
            if (sign >= '0' && sign <= '9') {
                return NUMBER;
            }
            return sign == ';' ? SEMICOLON : NO_TOKEN;
        }
    }

    /** The packets of one key: a flow of the cache, or what was really observed of the key. */
    private static final class Flow {
        private static final int[] PART_SHIFTS = {32, 24, 8, 0};
        private static final int[] PART_MASKS = {255, 255, 65535, 255};

        long flowKey = 0;
        long packets = 0;
        long bytes = 0;
        int first = 0;
        int last = 0;

        /** Returns the four parts as one number, NONE if one of them is out of its range. */
        static long keyOf(int source, int destination, int port, int protocol) {
            if (source < 0 || source > 255 || destination < 0 || destination > 255) {
                return NONE;
            }
            if (port < 0 || port > 65535 || protocol < 0 || protocol > 255) {
                return NONE;
            }
            return (long) source << 32 | (long) destination << 24 | (long) port << 8 | protocol;
        }

        static int partOf(long key, int field) {
            if (field < 0 || field >= PART_SHIFTS.length || field >= PART_MASKS.length) {
                return 0;
            }
            return (int) (key >> PART_SHIFTS[field]) & PART_MASKS[field];
        }

        void begin(long key, int now) {
            flowKey = key;
            packets = 0;
            bytes = 0;
            first = now;
            last = now;
        }

        long value(int field) {
            switch (field) {
                case PACKETS:
                    return packets;
                case BYTES:
                    return bytes;
                case FIRST:
                    return first;
                case LAST:
                    return last;
                default:
                    return partOf(flowKey, field);
            }
        }
    }

    /** Flows in the order in which they came; the objects behind the last one are kept to be used again. */
    private static final class FlowTable {
        private final Flow[] flows;
        int size = 0;

        FlowTable(int most) {
            // One at least, so that flowAt always has one to answer with.
            flows = new Flow[Math.max(1, most)];
            for (int k = 0; k < flows.length; k++) {
                flows[k] = new Flow();
            }
        }

        boolean isFull() {
            return size >= flows.length;
        }

        Flow flowAt(int index) {
            return flows[index >= 0 && index < flows.length ? index : 0];
        }

        int indexOf(long key) {
            for (int k = 0; k < size; k++) {
                if (flows[k].flowKey == key) {
                    return k;
                }
            }
            return NONE;
        }

        /** Adds a flow without packets; to be called only if the table is not full. */
        Flow addFlow(long key, int now) {
            Flow flow = flowAt(size);
            flow.begin(key, now);
            size = Math.min(size + 1, flows.length);
            return flow;
        }

        /** Returns the removed flow, which stays as it is until the next one is added. */
        Flow removeAt(int index) {
            Flow flow = flowAt(index);
            if (index < 0 || index >= size) {
                return flow;
            }
            for (int k = index; k < size - 1; k++) {
                flows[k] = flows[k + 1];
            }
            size--;
            flows[size] = flow;
            return flow;
        }

        int indexOfEarliestLast() {
            int earliest = 0;
            for (int k = 1; k < size; k++) {
                if (flows[k].last < flows[earliest].last) {
                    earliest = k;
                }
            }
            return earliest;
        }
    }

    /** A row of bytes of limited length, with numbers whose most significant byte is first. */
    private static final class Message {
        private final byte[] content;
        int length = 0;

        Message(int most) {
            content = new byte[Math.max(0, most)];
        }

        void put(long value, int bytes) {
            for (int k = bytes - 1; k >= 0; k--) {
                if (length < content.length) {
                    content[length] = (byte) (value >> 8 * k);
                    length++;
                }
            }
        }

        void putAt(int place, long value, int bytes) {
            for (int k = 0; k < bytes; k++) {
                int at = place + k;
                if (at >= 0 && at < length) {
                    content[at] = (byte) (value >> 8 * (bytes - 1 - k));
                }
            }
        }

        /** Appends bytes of another message. */
        void putFrom(Message other, int from, int bytes) {
            int fitting = Math.min(bytes, content.length - length);
            if (fitting > 0 && from >= 0 && fitting <= other.length - from) {
                System.arraycopy(other.content, from, content, length, fitting);
                length += fitting;
            }
        }

        int byteAt(int place) {
            return place >= 0 && place < length ? content[place] & 255 : NONE;
        }

        long numberAt(int place, int bytes) {
            long number = 0;
            for (int k = 0; k < bytes; k++) {
                int at = place + k;
                number = number << 8 | (at >= 0 && at < length ? content[at] & 255 : 0);
            }
            return number;
        }

        int intAt(int place, int bytes) {
            return (int) numberAt(place, bytes);
        }
    }

    /** The messages under way, and behind them one more in which the next message is written. */
    private static final class Queue {
        private final Message[] messages = new Message[MOST_MESSAGES + 1];
        int size = 0;
        int droppedMessages = 0;

        Queue() {
            for (int k = 0; k < messages.length; k++) {
                messages[k] = new Message(MOST_LENGTH);
            }
        }

        void clear() {
            size = 0;
            droppedMessages = 0;
        }

        Message messageAt(int index) {
            return messages[index >= 0 && index < messages.length ? index : 0];
        }

        /** Returns the message behind the last one, emptied. */
        Message freeMessage() {
            Message message = messageAt(size);
            message.length = 0;
            return message;
        }

        void addFreeMessage() {
            if (size < MOST_MESSAGES) {
                size++;
            } else {
                droppedMessages++;
            }
        }

        /** Returns the message taken out, which stays as it is until the next one is written. */
        Message takeOut(int index) {
            Message message = messageAt(index);
            if (index < 0 || index >= size) {
                return message;
            }
            for (int k = index; k < size - 1; k++) {
                messages[k] = messages[k + 1];
            }
            size--;
            messages[size] = message;
            return message;
        }

        void swap(int index, int other) {
            if (index < 0 || index >= size || other < 0 || other >= size) {
                return;
            }
            Message message = messages[index];
            messages[index] = messages[other];
            messages[other] = message;
        }
    }

    /** Keeps the pending records and sends them in messages, with the templates that are due. */
    private static final class Sender {
        private final Config config;
        private final Queue queue;
        // No operation exports more flows than the cache has.
        private final Message pending = new Message(MOST_FLOWS * MOST_RECORD);
        private final int[] pendingTemplates = new int[MOST_FLOWS];
        private int pendingRecords = 0;
        // The number of the message in which a template was sent last, counted from 1; 0 if it counts as not sent.
        private final int[] lastMessages = new int[MOST_TEMPLATES];
        private final int[] lastTimes = new int[MOST_TEMPLATES];
        private int sentMessages = 0;
        long sentRecords = 0;
        int sequenceNumber = 0;

        Sender(Config config, Queue queue) {
            this.config = config;
            this.queue = queue;
        }

        void clear() {
            sentRecords = 0;
            sentMessages = 0;
            restart();
        }

        void restart() {
            emptyPending();
            sequenceNumber = 0;
            forgetTemplates();
        }

        private void emptyPending() {
            pending.length = 0;
            pendingRecords = 0;
        }

        void forgetTemplates() {
            Arrays.fill(lastMessages, 0);
        }

        void forgetTemplatesWith(int field) {
            for (int k = 0; k < MOST_TEMPLATES; k++) {
                if (config.template(k).has(field)) {
                    lastMessages[k] = 0;
                }
            }
        }

        boolean mustSend(int template, int now) {
            if (template < 0 || template >= MOST_TEMPLATES || config.effective(template).size == 0) {
                return false;
            }
            return lastMessages[template] == 0
                || sentMessages - lastMessages[template] >= config.get(REFRESH_MESSAGES)
                || now - lastTimes[template] >= config.get(REFRESH_TICKS);
        }

        void addRecord(Flow flow, int template, int rateBits) {
            if (pendingRecords >= pendingTemplates.length) {
                return;
            }
            pendingTemplates[pendingRecords] = template;
            pendingRecords++;
            Template effective = config.effective(template);
            for (int place = 0; place < effective.size; place++) {
                int field = effective.field(place);
                long value = field == RATE ? rateBits : flow.value(field);
                pending.put(value & UNSIGNED, lengthOf(field));
            }
        }

        void sendPending(int now) {
            if (pendingRecords == 0) {
                return;
            }
            Message message = beginMessage(now);
            int records = 0;
            int setTemplate = NONE;
            int setStart = 0;
            int from = 0;
            for (int k = 0; k < pendingRecords && k < pendingTemplates.length; k++) {
                int template = pendingTemplates[k];
                int bytes = config.effective(template).recordBytes;
                int more = template == setTemplate ? bytes : bytes + SET_HEADER;
                if (message.length + more > config.get(LENGTH)) {
                    endMessage(message, records);
                    message = beginMessage(now);
                    records = 0;
                    setTemplate = NONE;
                }
                if (template != setTemplate) {
                    setTemplate = template;
                    setStart = message.length;
                    message.put(FIRST_ID + template, 2);
                    message.put(0, 2);
                }
                message.putFrom(pending, from, bytes);
                message.putAt(setStart + 2, message.length - setStart, 2);
                from += bytes;
                records++;
            }
            endMessage(message, records);
            emptyPending();
        }

        private Message beginMessage(int now) {
            Message message = queue.freeMessage();
            message.put(VERSION, 2);
            message.put(0, 2);
            message.put(now, 4);
            message.put(sequenceNumber, 4);
            message.put(0, 4);
            putTemplateSet(message, now);
            return message;
        }

        private void endMessage(Message message, int records) {
            message.putAt(2, message.length, 2);
            message.putAt(12, records, 4);
            queue.addFreeMessage();
            sentMessages++;
            sentRecords += records;
            sequenceNumber += records;
        }

        private void putTemplateSet(Message message, int now) {
            int start = message.length;
            for (int k = 0; k < MOST_TEMPLATES; k++) {
                if (mustSend(k, now)) {
                    if (message.length == start) {
                        message.put(TEMPLATE_SET, 2);
                        message.put(0, 2);
                    }
                    putTemplate(message, k);
                    lastMessages[k] = sentMessages + 1;
                    lastTimes[k] = now;
                }
            }
            if (message.length > start) {
                message.putAt(start + 2, message.length - start, 2);
            }
        }

        private void putTemplate(Message message, int template) {
            Template effective = config.effective(template);
            message.put(FIRST_ID + template, 2);
            message.put(effective.size, 2);
            for (int place = 0; place < effective.size; place++) {
                int field = effective.field(place);
                message.put(field, 2);
                message.put(lengthOf(field), 2);
            }
        }
    }

    /** Samples packets into flows and exports the flows; it also remembers what was really observed. */
    private static final class Exporter {
        private final Config config;
        private final Sender sender;
        final FlowTable cache = new FlowTable(MOST_FLOWS);
        private final FlowTable truths = new FlowTable(MOST_KEYS);
        int now = 0;
        int rate = 1;
        int drawState = 1;
        boolean adaptive = false;
        int exports = 0;
        private int exportsBeforeInterval = 0;
        long observedPackets = 0;
        long sampledPackets = 0;
        long unsentFlows = 0;

        Exporter(Config config, Sender sender) {
            this.config = config;
            this.sender = sender;
        }

        void clear() {
            cache.size = 0;
            truths.size = 0;
            now = 0;
            rate = config.get(SAMPLING);
            drawState = 1;
            adaptive = false;
            exports = 0;
            exportsBeforeInterval = 0;
            observedPackets = 0;
            sampledPackets = 0;
            unsentFlows = 0;
        }

        /** Returns how many of the packets were sampled. */
        int takePackets(long key, int bytes, int count) {
            observedPackets += count;
            remember(key, bytes, count);
            int taken = 0;
            for (int k = 0; k < count; k++) {
                if (isSampled()) {
                    addToFlow(key, bytes);
                    taken++;
                }
            }
            sampledPackets += taken;
            sender.sendPending(now);
            return taken;
        }

        private void remember(long key, int bytes, int count) {
            int index = truths.indexOf(key);
            if (index == NONE && truths.isFull()) {
                return;
            }
            Flow flow = index == NONE ? truths.addFlow(key, now) : truths.flowAt(index);
            flow.packets += count;
            flow.bytes += (long) count * bytes;
        }

        long trueValue(long key, int what) {
            int index = truths.indexOf(key);
            return index == NONE ? 0 : truths.flowAt(index).value(what == 0 ? PACKETS : BYTES);
        }

        private boolean isSampled() {
            if (rate <= 1) {
                return true;
            }
            drawState = 1103515245 * drawState + 12345 & 0x7FFFFFFF;
            return drawState / 256 % rate == 0;
        }

        private void addToFlow(long key, int bytes) {
            int index = cache.indexOf(key);
            if (index == NONE && cache.isFull()) {
                exportAt(cache.indexOfEarliestLast());
            }
            Flow flow = index == NONE ? cache.addFlow(key, now) : cache.flowAt(index);
            flow.packets++;
            flow.bytes += bytes;
            flow.last = now;
        }

        private void exportAt(int index) {
            Flow flow = cache.removeAt(index);
            int template = config.templateOf(Flow.partOf(flow.flowKey, PROTOCOL));
            exports++;
            if (config.effective(template).size == 0) {
                unsentFlows++;
            } else {
                sender.addRecord(flow, template, bitsOfInverse(rate));
            }
        }

        private void exportAll() {
            for (int left = cache.size; left > 0; left--) {
                exportAt(0);
            }
        }

        /** Returns the number of flows. */
        int exportAllAndSend() {
            int flows = cache.size;
            exportAll();
            sender.sendPending(now);
            return flows;
        }

        void tick() {
            now++;
            exportOld();
            int next = now % 100 == 0 ? endInterval() : rate;
            if (next != rate) {
                exportAll();
                rate = next;
            }
            sender.sendPending(now);
        }

        private void exportOld() {
            int active = config.get(ACTIVE);
            int inactive = config.get(INACTIVE);
            int index = 0;
            for (int left = cache.size; left > 0; left--) {
                Flow flow = cache.flowAt(index);
                if (now - flow.first >= active || now - flow.last >= inactive) {
                    exportAt(index);
                } else {
                    index++;
                }
            }
        }

        /** Returns the rate for the next interval. */
        private int endInterval() {
            int exported = exports - exportsBeforeInterval;
            // What the change of the rate exports then counts for the next interval.
            exportsBeforeInterval = exports;
            int budget = config.get(BUDGET);
            if (adaptive && exported > budget && rate <= MOST_RATE / 2) {
                return 2 * rate;
            }
            if (adaptive && 2 * exported < budget && rate >= 2) {
                return rate / 2;
            }
            return rate;
        }

        /** Returns the bits of the float 1f / number, for 1 to 1024; the language has no function for it. */
        static int bitsOfInverse(int number) {
            if (number < 1) {
                return 0;
            }
            int exponent = 0;
            while (exponent < 30 && 1 << exponent < number) {
                exponent++;
            }
            // The quotient lies from 2^23 to 2^24, as a float's significand does; it is never
            // halfway between two numbers, so adding half of the divisor rounds it.
            long significand = ((1L << 23 + exponent) + number / 2) / number;
            return (127 - exponent << 23) + (int) (significand - (1L << 23));
        }
    }

    /** Receives messages, decodes their records and counts what went wrong. */
    private static final class Collector {
        private static final int RECENT = 8;
        private static final int BITS_OF_ONE = 0x3F800000;

        private final Config config;
        private final Sums sums;
        // A template that is not known has no fields.
        private final Template[] known = new Template[MOST_TEMPLATES];
        private final int[] receivedTimes = new int[MOST_TEMPLATES];
        private final Template candidate = new Template();
        private final int[] recentNumbers = new int[RECENT];
        private final int[] recentTimes = new int[RECENT];
        final long[] counters = new long[COUNTERS];
        private final long[] values = new long[FIELDS];
        private int accepted = 0;
        private int lastTime = 0;
        int expectedNumber = 0;

        Collector(Config config, Sums sums) {
            this.config = config;
            this.sums = sums;
            for (int k = 0; k < MOST_TEMPLATES; k++) {
                known[k] = new Template();
            }
        }

        void clear() {
            Arrays.fill(counters, 0);
            restart();
        }

        /** Returns the number of templates that were known. */
        int restart() {
            int count = 0;
            for (int k = 0; k < MOST_TEMPLATES; k++) {
                if (known[k].size > 0) {
                    count++;
                }
                known[k].clear();
            }
            accepted = 0;
            return count;
        }

        boolean hasStarted() {
            return accepted > 0;
        }

        int ageOf(int template, int now) {
            if (template < 0 || template >= MOST_TEMPLATES || known[template].size == 0) {
                return NONE;
            }
            return now - receivedTimes[template];
        }

        private boolean isUsable(int template, int now) {
            int age = ageOf(template, now);
            return age != NONE && age <= config.get(LIFETIME);
        }

        int usableTemplates(int now) {
            int set = 0;
            for (int k = 0; k < MOST_TEMPLATES; k++) {
                if (isUsable(k, now)) {
                    set |= 1 << k;
                }
            }
            return set;
        }

        /** Returns the number of records that were decoded. */
        int take(Message message, int now) {
            counters[RECEIVED]++;
            if (message.length < HEADER || message.intAt(0, 2) != VERSION || message.intAt(2, 2) != message.length) {
                counters[MALFORMED]++;
                return 0;
            }
            int time = message.intAt(4, 4);
            int number = message.intAt(8, 4);
            if (isRecent(number, time)) {
                counters[DUPLICATES]++;
                return 0;
            }
            // As an int, a number of records from 2^31 on is negative: it counts as 0.
            account(number, time, Math.max(0, message.intAt(12, 4)));
            return readSets(message, now);
        }

        private boolean isRecent(int number, int time) {
            for (int k = 0; k < RECENT && k < accepted; k++) {
                if (recentNumbers[k] == number && recentTimes[k] == time) {
                    return true;
                }
            }
            return false;
        }

        private void account(int number, int time, int records) {
            int ahead = hasStarted() ? number - expectedNumber : 0;
            boolean restarted = ahead < 0 && number == 0 && time > lastTime;
            boolean late = ahead < 0 && !restarted;
            if (ahead > 0) {
                counters[LOST] += ahead;
            }
            if (restarted) {
                counters[RESTARTS]++;
            }
            if (late) {
                counters[LATE]++;
                counters[LOST] = Math.max(0, counters[LOST] - records);
            } else {
                expectedNumber = number + records;
            }
            int place = accepted % RECENT;
            recentNumbers[place] = number;
            recentTimes[place] = time;
            accepted++;
            lastTime = time;
        }

        private int readSets(Message message, int now) {
            int decoded = 0;
            int at = HEADER;
            for (int sets = 0; sets <= MOST_INPUT && at < message.length; sets++) {
                int left = message.length - at;
                int length = left < SET_HEADER ? 0 : message.intAt(at + 2, 2);
                if (length < SET_HEADER || length > left) {
                    counters[MALFORMED]++;
                    return decoded;
                }
                int id = message.intAt(at, 2);
                int from = at + SET_HEADER;
                at += length;
                if (id == TEMPLATE_SET) {
                    readTemplates(message, from, at, now);
                } else if (id >= FIRST_ID && id < FIRST_ID + MOST_TEMPLATES) {
                    decoded += readData(message, from, at, id - FIRST_ID, now);
                }
            }
            return decoded;
        }

        private void readTemplates(Message message, int from, int to, int now) {
            int at = from;
            for (int count = 0; count <= MOST_INPUT && to - at >= 4; count++) {
                int template = message.intAt(at, 2) - FIRST_ID;
                int fields = message.intAt(at + 2, 2);
                at += 4;
                if (template < 0 || template >= MOST_TEMPLATES || 4 * fields > to - at) {
                    return;
                }
                if (!readCandidate(message, at, fields)) {
                    return;
                }
                known[template].copyFrom(candidate, ALL_FIELDS);
                receivedTimes[template] = now;
                at += 4 * fields;
            }
        }

        /** Returns whether the fields make a template; a wrong one must leave the known one as it is. */
        private boolean readCandidate(Message message, int from, int fields) {
            candidate.clear();
            for (int k = 0; k < fields; k++) {
                int field = message.intAt(from + 4 * k, 2);
                int length = message.intAt(from + 4 * k + 2, 2);
                if (field >= FIELDS || length != lengthOf(field) || candidate.has(field)) {
                    return false;
                }
                candidate.addField(field);
            }
            return candidate.size > 0;
        }

        private int readData(Message message, int from, int to, int template, int now) {
            if (template < 0 || template >= MOST_TEMPLATES || !isUsable(template, now)) {
                counters[UNDECODABLE]++;
                return 0;
            }
            Template row = known[template];
            int decoded = 0;
            for (int at = from; row.recordBytes > 0 && to - at >= row.recordBytes; at += row.recordBytes) {
                decode(message, at, row);
                decoded++;
            }
            counters[DECODED] += decoded;
            return decoded;
        }

        private void decode(Message message, int from, Template row) {
            Arrays.fill(values, 0);
            int at = from;
            for (int place = 0; place < row.size; place++) {
                int field = row.field(place);
                if (field >= 0 && field < FIELDS) {
                    values[field] = message.numberAt(at, FIELD_BYTES[field]);
                    at += FIELD_BYTES[field];
                }
            }
            long key = Flow.keyOf((int) values[0], (int) values[1], (int) values[2], (int) values[3]);
            int index = sums.indexOrNew(key);
            if (index == NONE) {
                counters[OVERFLOW]++;
                return;
            }
            // A missing field has the bits 0, which are no rate either.
            int rate = rateOfBits((int) values[RATE], config.get(ASSUME));
            sums.add(index, values[PACKETS], values[BYTES], rate);
        }

        /** Returns the rate for the bits of a float, the assumed one if the float is not in (0, 1]. */
        private static int rateOfBits(int bits, int assumed) {
            if (bits <= 0 || bits > BITS_OF_ONE) {
                return assumed;
            }
            int exponent = bits >> 23;
            if (exponent < 117) {
                // Less than 1 / 1024; some of these floats would have an inverse that is infinite.
                return MOST_RATE;
            }
            int significand = bits & 0x7FFFFF | 0x800000;
            float inverse = (float) significand / (float) (1L << 150 - exponent);
            return inverse > 0 ? Math.min(MOST_RATE, (int) (1f / inverse + 0.5f)) : assumed;
        }
    }

    /** What the collector knows of each key: raw sums, estimates and variances, of packets (0) and of bytes (1). */
    private static final class Sums {
        private static final long TWO_TO_52 = 1L << 52;
        private static final long TWO_TO_54 = 1L << 54;

        final long[] keys = new long[MOST_KEYS];
        final long[][] raws = new long[2][MOST_KEYS];
        final long[][] estimates = new long[2][MOST_KEYS];
        private final double[][] variances = new double[2][MOST_KEYS];
        int size = 0;

        int indexOf(long key) {
            for (int k = 0; k < size; k++) {
                if (keys[k] == key) {
                    return k;
                }
            }
            return NONE;
        }

        int indexOrNew(long key) {
            int index = indexOf(key);
            if (index != NONE || size >= MOST_KEYS) {
                return index;
            }
            keys[size] = key;
            for (int what = 0; what < 2; what++) {
                raws[what][size] = 0;
                estimates[what][size] = 0;
                variances[what][size] = 0;
            }
            size++;
            return size - 1;
        }

        void add(int index, long packets, long bytes, int rate) {
            if (index < 0 || index >= size) {
                return;
            }
            double factor = (double) rate * (double) (rate - 1);
            raws[0][index] += packets;
            raws[1][index] += bytes;
            estimates[0][index] += rate * packets;
            estimates[1][index] += rate * bytes;
            variances[0][index] += factor * (double) packets;
            if (packets != 0) {
                variances[1][index] += factor * (double) bytes * (double) bytes / (double) packets;
            }
        }

        double lowerBound(int index, int what) {
            double bound = (double) estimates[what][index] - margin(variances[what][index]);
            double least = (double) raws[what][index];
            return bound > least ? bound : least;
        }

        double upperBound(int index, int what) {
            return (double) estimates[what][index] + margin(variances[what][index]);
        }

        long estimateOfAll(int what) {
            long sum = 0;
            for (int k = 0; k < size; k++) {
                sum += estimates[what][k];
            }
            return sum;
        }

        double marginOfAll(int what) {
            double sum = 0;
            for (int k = 0; k < size; k++) {
                sum += variances[what][k];
            }
            return margin(sum);
        }

        int indexWithRank(int rank, int what) {
            for (int k = 0; k < size; k++) {
                if (rankOf(k, what) == rank) {
                    return k;
                }
            }
            return NONE;
        }

        private int rankOf(int index, int what) {
            long own = estimates[what][index];
            int before = 0;
            for (int k = 0; k < size; k++) {
                long other = estimates[what][k];
                if (other > own || other == own && k < index) {
                    before++;
                }
            }
            return before;
        }

        private static double margin(double variance) {
            return 1.96 * root(variance);
        }

        /** Returns the double that is nearest to the square root; the language has no function for it. */
        private static double root(double square) {
            if (!(square > 0)) {
                return 0;
            }
            double scaled = square;
            int doublings = 0;
            for (int k = 0; k < 600 && scaled >= TWO_TO_54; k++) {
                scaled = scaled / 4;
                doublings++;
            }
            for (int k = 0; k < 600 && scaled < TWO_TO_52; k++) {
                scaled = scaled * 4;
                doublings--;
            }
            // From 2^52 on a double is a whole number, so the cast loses nothing.
            return timesPowerOfTwo(scaledRoot((long) scaled), doublings - 26);
        }

        /** Returns 2^26 times the square root of a number from 2^52 to 2^54, rounded; it is found bit by bit. */
        private static long scaledRoot(long square) {
            long root = 0;
            long rest = 0;
            for (int bit = 52; bit >= 0; bit--) {
                long pair = bit >= 26 ? square >> 2 * (bit - 26) & 3 : 0;
                long trial = 4 * root + 1;
                rest = 4 * rest + pair;
                root = 2 * root;
                if (rest >= trial) {
                    rest -= trial;
                    root++;
                }
            }
            // (root + 1/2)^2 is root^2 + root + 1/4: a rest above root is more than half of the way.
            return rest > root ? root + 1 : root;
        }

        private static double timesPowerOfTwo(long number, int power) {
            double product = (double) number;
            for (int k = 0; k < power; k++) {
                product = product * 2;
            }
            for (int k = power; k < 0; k++) {
                product = product / 2;
            }
            return product;
        }
    }

    private static int lengthOf(int field) {
        return field >= 0 && field < FIELDS ? FIELD_BYTES[field] : 0;
    }
}
