import java.util.function.Supplier;

/** All that can be read of an object, as one text; the calls that read it change nothing. */
final class State {
    private final FlowExporter x;
    private final StringBuilder text = new StringBuilder();

    private State(FlowExporter x) {
        this.x = x;
    }

    static String of(FlowExporter x) {
        return "error " + x.errorCode() + " " + x.errorPosition() + "\n" + withoutError(x);
    }

    static String withoutError(FlowExporter x) {
        State state = new State(x);
        state.exporter();
        state.templates();
        state.queue();
        state.collector();
        state.keys();
        return state.text.toString();
    }

    private void line(String name, Object... values) {
        text.append(name);
        for (Object value : values) {
            text.append(' ').append(value);
        }
        text.append('\n');
    }

    private void exporter() {
        line("now", x.now());
        line("rate", x.rate(), x.rateBits());
        line("counts", x.observed(), x.sampled(), x.sent(), x.unsent(), x.dropped(), x.sequence());
        for (int k = 0; k < x.cacheSize(); k++) {
            text.append("flow ").append(k);
            for (int field = 0; field < 8; field++) {
                text.append(' ').append(x.cached(k, field));
            }
            text.append('\n');
        }
    }

    private void templates() {
        for (int t = 0; t < x.templateCount(); t++) {
            line("template " + t, x.templateFields(t), x.effectiveFields(t), x.recordLength(t), x.isDue(t));
            for (int place = 0; place < 9; place++) {
                text.append(x.fieldAt(t, place)).append(place < 8 ? ' ' : '\n');
            }
        }
    }

    private void queue() {
        for (int k = 0; k < x.queueLength(); k++) {
            int length = x.messageLength(k);
            text.append("message ").append(k).append(' ').append(length).append(' ');
            for (int place = 0; place < length; place++) {
                text.append((char) ('A' + (x.messageByte(k, place) >> 4)));
                text.append((char) ('A' + (x.messageByte(k, place) & 15)));
            }
            text.append('\n');
        }
    }

    private void collector() {
        line("known", x.knownTemplates(), x.expected(), answer(x::lossRate));
        for (int t = 0; t < 4; t++) {
            line("age", x.templateAge(t));
        }
        for (int k = 0; k < 9; k++) {
            line("counter " + k, x.counter(k));
        }
    }

    private void keys() {
        for (int k = 0; k < x.keyCount(); k++) {
            line("key " + k, x.key(k, 0), x.key(k, 1), x.key(k, 2), x.key(k, 3));
            for (int what = 0; what < 2; what++) {
                line("sums", x.raw(k, what), x.estimate(k, what), x.lower(k, what), x.upper(k, what), x.ranked(k, what),
                    x.truth(x.key(k, 0), x.key(k, 1), x.key(k, 2), x.key(k, 3), what));
            }
        }
        for (int what = 0; what < 2; what++) {
            line("totals", x.covered(what), x.totalEstimate(what), x.totalMargin(what));
        }
    }

    /** What a call answers, or the class of what it throws. */
    static Object answer(Supplier<Object> call) {
        try {
            return call.get();
        } catch (RuntimeException e) {
            return e.getClass();
        }
    }
}
