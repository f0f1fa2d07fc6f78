import java.util.List;
import java.util.function.Function;
import java.util.function.Supplier;

/**
 * Two objects with the same past: one of them is asked what it must refuse, and from then on both must answer
 * alike. What cannot be read, such as the state of the draws, shows itself in the answers to later calls.
 */
final class Twins {
    private static final List<Supplier<FlowExporter>> PASTS = List.of(FlowExporter::new, Twins::busy, Twins::full);
    private final Check check;

    Twins(Check check) {
        this.check = check;
    }

    /** The call must answer or throw what is due, whatever the past was, and change nothing. */
    void refused(String call, Object due, Function<FlowExporter, Object> body) {
        for (Supplier<FlowExporter> past : PASTS) {
            refusedAfter(past, call, due, body);
        }
    }

    void refusedAfter(Supplier<FlowExporter> past, String call, Object due, Function<FlowExporter, Object> body) {
        FlowExporter x = past.get();
        FlowExporter y = past.get();
        check.dueObject(call, State.answer(() -> body.apply(x)), due);
        alike(call + " changed something", x, y);
    }

    /** Both objects must answer alike, now and later. They are used up by it. */
    void alike(String name, FlowExporter x, FlowExporter y) {
        compare(name + ", now", State.of(x), State.of(y));
        compare(name + ", later", future(x), future(y));
    }

    /** Like alike, but for the error of the last load. */
    void alikeButForTheError(String name, FlowExporter x, FlowExporter y) {
        compare(name + ", now", State.withoutError(x), State.withoutError(y));
        compare(name + ", later", future(x), future(y));
    }

    /** Whether the objects answer alike; a test that tells them apart needs to know that it can. */
    static boolean areAlike(FlowExporter x, FlowExporter y) {
        return State.of(x).equals(State.of(y)) && future(x).equals(future(y));
    }

    private void compare(String name, String got, String want) {
        if (got.equals(want)) {
            check.dueObject(name, "alike", "alike");
            return;
        }
        String[] left = got.split("\n");
        String[] right = want.split("\n");
        int k = 0;
        while (k < left.length && k < right.length && left[k].equals(right[k])) {
            k++;
        }
        check.dueObject(name, k < left.length ? left[k] : "the end", k < right.length ? right[k] : "the end");
    }

    /** What the object answers to a row of calls that bring to light what cannot be read. */
    static String future(FlowExporter x) {
        StringBuilder text = new StringBuilder();
        // The length of the buffer, then its content.
        int length = x.appendInput(1, 2, 3, 4, 5);
        text.append("buffer ").append(length).append('\n');
        x.truncateInput(length - 20);
        text.append("receive ").append(x.receive()).append('\n');
        text.append("adaptive ").append(x.setAdaptive(true)).append('\n');
        for (int k = 0; k < 60; k++) {
            text.append(x.observe(k % 14, 0, 0, k % 3 == 0 ? 17 : 6, 100)).append(k % 10 == 9 ? "\n" : " ");
        }
        text.append(State.withoutError(x));
        text.append("flush ").append(x.flush()).append('\n');
        text.append("deliverAll ").append(x.deliverAll()).append('\n');
        text.append(State.withoutError(x));
        for (int k = 0; k < 25; k++) {
            text.append(x.isDue(0)).append(' ').append(x.observeMany(k, 1, 2, 6, 40, 9)).append('\n');
            text.append(x.flush()).append(' ').append(x.deliverAll()).append('\n');
        }
        for (int k = 0; k < 30; k++) {
            text.append(x.advance(9)).append(' ').append(x.rate()).append(' ').append(x.isDue(0)).append('\n');
            text.append(x.knownTemplates()).append(' ').append(x.observe(k % 3, 0, 0, 6, 7)).append('\n');
        }
        for (int k = 0; k < 7; k++) {
            text.append(x.advance(1000)).append(' ').append(x.rate()).append(' ').append(x.isDue(0)).append('\n');
            text.append(x.knownTemplates()).append(' ').append(x.templateAge(1)).append('\n');
        }
        return text.append(State.withoutError(x)).toString();
    }

    /** Something of everything: flows, messages, copies, losses, keys, a draw state, a text error, bytes in the buffer. */
    static FlowExporter busy() {
        FlowExporter x = Check.loaded("sampling 2;budget 3;active 40;inactive 15;refresh 4 30;lifetime 60;length 300;"
            + "assume 9;template source destination port protocol packets bytes rate;template port packets;"
            + "template bytes;use 17 1;use 255 2;drop bytes;");
        x.setSeed(7);
        for (int k = 0; k < 12; k++) {
            x.observeMany(k % 5, k, 80, k % 2 == 0 ? 17 : 6, 100 + k, 5);
            x.advance(9);
            if (k % 4 == 3) {
                x.flush();
            }
        }
        x.observeMany(1, 1, 1, 255, 1, 40);
        x.setAdaptive(true);
        x.flush();
        x.duplicate(0);
        x.deliver(0);
        x.deliver(1);
        x.deliver(1);
        for (int k = 0; k < 3; k++) {
            x.observeMany(k, 9, 9, 6, 9, 9);
        }
        Check.load(x, "sampling 5;budget 0;");
        Check.put(x, Check.framed(77, 900, 3, "0002 000c 0103 0001 0000 0001 0103 0007 010203"));
        return x;
    }

    /** Everything is full: 4 templates, 12 flows, 12 messages, 24 keys, 24 truths, 700 bytes in the buffer. */
    static FlowExporter full() {
        FlowExporter x = Check.loaded("template source destination port protocol packets bytes first last rate;"
            + "template source packets;template port;template rate bytes;use 17 1;use 1 2;use 2 3;");
        for (int k = 0; k < 26; k++) {
            x.observeMany(k, 200, 65535, 6, 65535, 1 + k);
            x.deliverAll();
        }
        x.flush();
        x.deliverAll();
        for (int k = 0; k < 14; k++) {
            x.observe(k, 7, 7, k % 3, 70);
            x.flush();
        }
        for (int k = 0; k < 12; k++) {
            x.observe(k, 3, 3, 17, 30);
        }
        StringBuilder records = new StringBuilder();
        for (int k = 0; k < 668; k++) {
            records.append(String.format("%02x", k % 251));
        }
        Check.put(x, Check.framed(5, 500, 7, "0002 000c 0100 0001 0000 0001 0100 02a0" + records));
        return x;
    }
}
