/** The values that hold without a statement, and that one statement leaves the others alone. */
public final class DefaultsTest {
    private static final Edges edges = new Edges();
    private static final Check check = edges.check;

    public static void main(String[] args) {
        String values = "without these statements 1, 100, 1000, 100, 20 and 1000, 5000, 512, 1;";
        edges.terms(values, DefaultsTest::sampling);
        edges.terms(values, DefaultsTest::budget);
        edges.terms(values, DefaultsTest::active);
        edges.terms(values, DefaultsTest::inactive);
        edges.terms(values, DefaultsTest::refresh);
        edges.terms(values, DefaultsTest::lifetime);
        edges.terms(values, DefaultsTest::length);
        edges.terms(values, DefaultsTest::assume);
        edges.terms(values, DefaultsTest::statementsLeaveTheOthers);
        edges.finish();
    }

    private static void sampling() {
        check.due("rate", new FlowExporter().rate(), 1);
        check.due("rate of a text", Check.loaded("budget 5;").rate(), 1);
    }

    private static void export(FlowExporter x, int flows) {
        for (int k = 0; k < flows; k++) {
            x.observeMany(k, 0, 0, 0, 1, 200);
            x.flush();
        }
    }

    private static void budget() {
        int[] exports = {49, 50, 100, 101};
        int[] rates = {1, 2, 2, 4};
        for (int k = 0; k < exports.length; k++) {
            FlowExporter x = Check.loaded("sampling 2;");
            x.setAdaptive(true);
            export(x, exports[k]);
            x.advance(100);
            check.due("rate after " + exports[k], x.rate(), rates[k]);
        }
    }

    private static void active() {
        FlowExporter x = new FlowExporter();
        for (int k = 0; k < 11; k++) {
            x.observe(1, 1, 1, 1, 1);
            check.due("no export at " + x.now(), x.advance(90), 0);
        }
        x.observe(1, 1, 1, 1, 1);
        check.due("no export at 999", x.advance(9), 0);
        check.due("export at 1000", x.advance(1), 1);
    }

    private static void inactive() {
        FlowExporter x = new FlowExporter();
        x.observe(1, 1, 1, 1, 1);
        check.due("no export at 99", x.advance(99), 0);
        check.due("export at 100", x.advance(1), 1);
    }

    private static void refresh() {
        FlowExporter x = new FlowExporter();
        export(x, 1);
        export(x, 19);
        check.due("19 messages after", x.isDue(0), false);
        export(x, 1);
        check.due("20 messages after", x.isDue(0), true);
        FlowExporter y = new FlowExporter();
        export(y, 1);
        y.advance(999);
        check.due("999 ticks after", y.isDue(0), false);
        y.advance(1);
        check.due("1000 ticks after", y.isDue(0), true);
    }

    private static void lifetime() {
        FlowExporter x = new FlowExporter();
        export(x, 1);
        x.deliverAll();
        for (int k = 0; k < 5; k++) {
            x.advance(1000);
        }
        check.due("age", x.templateAge(0), 5000);
        check.due("known after 5000", x.knownTemplates(), 1);
        x.advance(1);
        check.due("too old after 5001", x.knownTemplates(), 0);
    }

    /** Ten records in sets of their own and one more: the template set and they have 498 - 4 bytes. */
    private static int firstLength(String last) {
        String all = "template source destination port protocol packets bytes first last rate;";
        FlowExporter x = Check.loaded(all + all + all + "template " + last + ";use 1 1;use 3 3;");
        for (int k = 0; k < 10; k++) {
            x.observe(k, 0, 0, k % 2, 1);
        }
        x.observe(10, 0, 0, 3, 1);
        x.flush();
        return x.messageLength(0);
    }

    private static void length() {
        check.due("512 bytes fit", firstLength("packets first last source destination"), 512);
        check.due("513 bytes do not", firstLength("packets bytes source destination protocol"), 494);
    }

    private static void assume() {
        FlowExporter x = Check.loaded("template source packets;sampling 2;");
        export(x, 1);
        x.deliverAll();
        check.due("the assumed rate", x.estimate(0, 0), x.raw(0, 0));
        check.due("packets were sampled", x.raw(0, 0) > 0, true);
    }

    private static void statementsLeaveTheOthers() {
        FlowExporter x = Check.loaded("refresh 1 1;");
        export(x, 1);
        x.deliverAll();
        x.advance(100);
        check.due("refresh leaves lifetime", x.knownTemplates(), 1);
        FlowExporter y = Check.loaded("lifetime 1;inactive 2;");
        export(y, 1);
        y.advance(1);
        y.observe(1, 1, 1, 1, 1);
        check.due("inactive leaves active", y.advance(1), 0);
        check.due("lifetime leaves refresh", y.isDue(0), false);
    }
}
