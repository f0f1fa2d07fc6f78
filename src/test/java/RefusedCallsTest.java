import java.util.LinkedHashMap;
import java.util.Map;
import java.util.function.Function;

/** What the document says of all calls at once: the order of the exceptions, and that a refused call changes nothing. */
public final class RefusedCallsTest {
    private static final Class<?> ARGUMENT = IllegalArgumentException.class;
    private static final Class<?> INDEX = IndexOutOfBoundsException.class;
    private static final Class<?> STATE = IllegalStateException.class;
    private static final Edges edges = new Edges();
    private static final Check check = edges.check;
    private static final Twins twins = edges.twins;

    /** Calls that are refused whatever the past was, and what they answer or throw. */
    private final Map<String, Function<FlowExporter, Object>> calls = new LinkedHashMap<>();
    private final Map<String, Object> dues = new LinkedHashMap<>();

    public static void main(String[] args) {
        RefusedCallsTest all = new RefusedCallsTest();
        all.thrown();
        all.answered();
        edges.terms("A call that throws an exception, or returns false, NONE or TEXT_ERROR, changes nothing, except where"
            + " its description says so.", all::changeNothing);
        edges.terms("Exceptions are checked in the order in which a method lists them.", RefusedCallsTest::order);
        edges.terms("`NONE = -1`: There is none.", () -> check.due("NONE", FlowExporter.NONE, -1));
        edges.terms("`TEXT_ERROR = -2`: The text has an error.",
            () -> check.due("TEXT_ERROR", FlowExporter.TEXT_ERROR, -2));
        edges.finish();
    }

    private void add(String name, Object due, Function<FlowExporter, Object> call) {
        calls.put(name, call);
        dues.put(name, due);
    }

    private void thrown() {
        add("observe", ARGUMENT, x -> x.observe(0, 0, 0, 0, 0));
        add("observeMany", ARGUMENT, x -> x.observeMany(0, 0, 0, 0, 1, 201));
        add("advance", ARGUMENT, x -> x.advance(1001));
        add("cached", INDEX, x -> x.cached(12, 0));
        add("templateFields", INDEX, x -> x.templateFields(4));
        add("effectiveFields", INDEX, x -> x.effectiveFields(4));
        add("fieldAt", INDEX, x -> x.fieldAt(4, 0));
        add("recordLength", INDEX, x -> x.recordLength(4));
        add("setSupport", ARGUMENT, x -> x.setSupport(9, false));
        add("isDue", INDEX, x -> x.isDue(4));
        add("messageLength", INDEX, x -> x.messageLength(12));
        add("messageByte", INDEX, x -> x.messageByte(12, 0));
        add("deliver", INDEX, x -> x.deliver(12));
        add("lose", INDEX, x -> x.lose(12));
        add("duplicate", INDEX, x -> x.duplicate(12));
        add("exchange", INDEX, x -> x.exchange(0, 12));
        add("templateAge", ARGUMENT, x -> x.templateAge(4));
        add("counter", ARGUMENT, x -> x.counter(9));
        add("key", INDEX, x -> x.key(24, 0));
        add("raw", INDEX, x -> x.raw(24, 0));
        add("estimate", INDEX, x -> x.estimate(24, 0));
        add("lower", INDEX, x -> x.lower(24, 0));
        add("upper", INDEX, x -> x.upper(24, 0));
        add("truth", ARGUMENT, x -> x.truth(0, 0, 0, 0, 2));
        add("covered", ARGUMENT, x -> x.covered(2));
        add("totalEstimate", ARGUMENT, x -> x.totalEstimate(2));
        add("totalMargin", ARGUMENT, x -> x.totalMargin(2));
        add("ranked", ARGUMENT, x -> x.ranked(0, 2));
    }

    private void answered() {
        add("truncateInput", -1, x -> x.truncateInput(701));
        add("setRate", -1, x -> x.setRate(1025));
        add("setSeed", false, x -> x.setSeed(-1));
        add("fieldAt, too far", -1, x -> x.fieldAt(0, 9));
        add("find", -1, x -> x.find(256, 0, 0, 0));
        add("ranked, too far", -1, x -> x.ranked(24, 1));
    }

    private void changeNothing() {
        calls.forEach((name, call) -> twins.refused(name, dues.get(name), call));
        // All of them, one behind the other.
        twins.refused("all of them", calls.size(), x -> {
            int refused = 0;
            for (String name : calls.keySet()) {
                refused += State.answer(() -> calls.get(name).apply(x)).equals(dues.get(name)) ? 1 : 0;
            }
            return refused;
        });
        // Those that only a full object refuses, or only a new one.
        twins.refusedAfter(Twins::full, "appendInput", -1, x -> x.appendInput(1, 2, 3, 4, 5));
        twins.refusedAfter(Twins::full, "duplicate", false, x -> x.duplicate(0));
        twins.refusedAfter(Twins::full, "exchange", false, x -> x.exchange(3, 3));
        twins.refusedAfter(FlowExporter::new, "lossRate", ArithmeticException.class, FlowExporter::lossRate);
        twins.refusedAfter(FlowExporter::new, "expected", -1L, FlowExporter::expected);
        twins.refusedAfter(FlowExporter::new, "errorPosition", -1, FlowExporter::errorPosition);
        twins.refusedAfter(FlowExporter::new, "templateAge", -1, x -> x.templateAge(0));
    }

    private static void order() {
        FlowExporter late = new FlowExporter();
        for (int k = 0; k < 1000; k++) {
            late.advance(1000);
        }
        check.dueObject("advance, the state", State.answer(() -> late.advance(1000)), STATE);
        check.dueObject("advance, both", State.answer(() -> late.advance(1001)), ARGUMENT);
        twins.refused("cached, both", INDEX, x -> x.cached(-1, 8));
        twins.refusedAfter(Twins::full, "cached, the field", ARGUMENT, x -> x.cached(0, 8));
        twins.refused("key, both", INDEX, x -> x.key(-1, 4));
        twins.refusedAfter(Twins::full, "key, the field", ARGUMENT, x -> x.key(0, 4));
        twins.refused("raw, both", INDEX, x -> x.raw(-1, 2));
        twins.refusedAfter(Twins::full, "raw, what", ARGUMENT, x -> x.raw(0, 2));
        twins.refused("estimate, both", INDEX, x -> x.estimate(-1, 2));
        twins.refusedAfter(Twins::full, "estimate, what", ARGUMENT, x -> x.estimate(0, 2));
        twins.refused("lower, both", INDEX, x -> x.lower(-1, 2));
        twins.refusedAfter(Twins::full, "lower, what", ARGUMENT, x -> x.lower(0, 2));
        twins.refused("upper, both", INDEX, x -> x.upper(-1, 2));
        twins.refusedAfter(Twins::full, "upper, what", ARGUMENT, x -> x.upper(0, 2));
    }
}
