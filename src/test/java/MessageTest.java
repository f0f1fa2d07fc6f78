/** Promises 19 to 26 and 30 to 41: templates, what messages contain, and the queue. */
public final class MessageTest {
    private static final Check check = new Check();

    public static void main(String[] args) {
        templates();
        negotiation();
        wholeMessage();
        severalSets();
        fullMessages();
        dueByMessages();
        dueByTicks();
        dueAgain();
        queueIsFull();
        queueCalls();
        wrongIndexes();
        check.finish();
    }

    private static void templates() {
        FlowExporter x = Check.loaded("template port source;template rate;template bytes packets first last;drop port;");
        check.due("templateCount", x.templateCount(), 3);
        int[] sets = {5, 256, 240};
        int[] effective = {1, 256, 240};
        int[] lengths = {1, 4, 20};
        for (int k = 0; k < 3; k++) {
            check.due("templateFields " + k, x.templateFields(k), sets[k]);
            check.due("effectiveFields " + k, x.effectiveFields(k), effective[k]);
            check.due("recordLength " + k, x.recordLength(k), lengths[k]);
        }
        int[] row = {5, 4, 6, 7};
        for (int k = 0; k < 4; k++) {
            check.due("fieldAt 2 " + k, x.fieldAt(2, k), row[k]);
        }
        check.due("fieldAt 2 4", x.fieldAt(2, 4), -1);
        check.due("fieldAt 2 -1", x.fieldAt(2, -1), -1);
        check.due("fieldAt 2 far", x.fieldAt(2, Integer.MAX_VALUE), -1);
        check.due("fieldAt of a dropped field", x.fieldAt(0, 0), 2);
        for (int wrong : new int[] {-1, 3, 4, Integer.MAX_VALUE, Integer.MIN_VALUE}) {
            check.dueThrow("templateFields " + wrong, IndexOutOfBoundsException.class, () -> x.templateFields(wrong));
            check.dueThrow("effectiveFields " + wrong, IndexOutOfBoundsException.class, () -> x.effectiveFields(wrong));
            check.dueThrow("recordLength " + wrong, IndexOutOfBoundsException.class, () -> x.recordLength(wrong));
            check.dueThrow("fieldAt " + wrong, IndexOutOfBoundsException.class, () -> x.fieldAt(wrong, 0));
            check.dueThrow("isDue " + wrong, IndexOutOfBoundsException.class, () -> x.isDue(wrong));
        }
    }

    private static void negotiation() {
        FlowExporter x = Check.loaded("template port source;template rate;");
        for (int wrong : new int[] {-1, 9, Integer.MAX_VALUE, Integer.MIN_VALUE}) {
            check.dueThrow("setSupport " + wrong, IllegalArgumentException.class, () -> x.setSupport(wrong, false));
        }
        check.due("setSupport 2", x.setSupport(2, false), true);
        check.due("setSupport 2 again", x.setSupport(2, false), false);
        check.due("effectiveFields", x.effectiveFields(0), 1);
        check.due("templateFields", x.templateFields(0), 5);
        check.due("setSupport 8", x.setSupport(8, false), true);
        check.due("no effective fields", x.effectiveFields(1), 0);
        check.due("record of no bytes", x.recordLength(1), 0);
        check.due("is not due", x.isDue(1), false);
        check.due("setSupport 8 back", x.setSupport(8, true), false);
        check.due("is due", x.isDue(1), true);
    }

    private static void wholeMessage() {
        FlowExporter x = Check.loaded("sampling 3;template rate last first bytes packets protocol port destination source;");
        x.advance(258);
        x.setSeed(2);
        int sampled = x.observeMany(0xab, 0xcd, 0x1234, 0xef, 0xfedc, 200);
        x.advance(2);
        check.due("flush", x.flush(), 1);
        long bytes = 0xfedcL * sampled;
        String template = "0002 002c 0100 0009 0008 0004 0007 0004 0006 0004 0005 0008 0004 0004 0003 0001 0002 0002 0001 0001 0000 0001";
        String record = String.format("3eaaaaab 00000102 00000102 %016x %08x ef 1234 cd ab", bytes, sampled);
        String want = "000a 005d 00000104 00000000 00000001" + template + "0100 0021" + record;
        check.dueObject("the message", Check.hex(Check.message(x, 0)), want.replace(" ", ""));
        check.due("messageLength", x.messageLength(0), 93);
        x.setRate(1);
        x.observe(1, 2, 3, 4, 5);
        x.observe(1, 2, 3, 5, 6);
        x.flush();
        String records = "3f800000 00000104 00000104 0000000000000005 00000001 04 0003 02 01"
            + "3f800000 00000104 00000104 0000000000000006 00000001 05 0003 02 01";
        want = "000a 004e 00000104 00000001 00000002 0100 003e" + records;
        check.dueObject("the next message", Check.hex(Check.message(x, 1)), want.replace(" ", ""));
        check.due("sent", x.sent(), 3);
        check.due("sequence", x.sequence(), 3);
    }

    private static void severalSets() {
        FlowExporter zero = Check.loaded("template source;template port;use 0 1;use 255 1;");
        zero.observe(0, 0, 0x4142, 0, 1);
        zero.observe(0, 0, 0x4344, 255, 1);
        zero.flush();
        check.dueObject("protocols 0 and 255", Check.hex(Check.message(zero, 0)).substring(72), "0101000841424344");
        FlowExporter x = Check.loaded("template source;template port;use 1 1;use 2 1;");
        x.observe(1, 0, 7, 0, 1);
        x.observe(2, 0, 7, 1, 1);
        x.observe(3, 0, 8, 2, 1);
        x.observe(4, 0, 7, 3, 1);
        x.flush();
        String want = "000a 0036 00000000 00000000 00000004"
            + "0002 0014 0100 0001 0000 0001 0101 0001 0002 0002"
            + "0100 0005 01 0101 0008 0007 0008 0100 0005 04";
        check.dueObject("sets", Check.hex(Check.message(x, 0)), want.replace(" ", ""));
    }

    private static void fullMessages() {
        // 16 + 44 + 4 + 29 k: 6 records make 238 bytes, 7 make 267.
        for (int length = 256; length <= 300; length++) {
            FlowExporter x = Check.loaded("length " + length + ";");
            for (int k = 0; k < 12; k++) {
                x.observe(k, 0, 0, 0, 1);
            }
            x.flush();
            int first = length >= 296 ? 8 : length >= 267 ? 7 : 6;
            check.due("first message of " + length, x.messageLength(0), 64 + 29 * first);
            check.due("its length field", x.messageByte(0, 2) * 256 + x.messageByte(0, 3), 64 + 29 * first);
            check.due("its set's length", x.messageByte(0, 62) * 256 + x.messageByte(0, 63), 4 + 29 * first);
            check.due("its records", x.messageByte(0, 15), first);
            check.due("second message of " + length, x.messageLength(1), 20 + 29 * (12 - first));
            check.due("its sequence number", x.messageByte(1, 11), first);
            check.due("its records", x.messageByte(1, 15), 12 - first);
            check.due("two messages", x.queueLength(), 2);
        }
        // A new set needs 4 bytes more: with records of 29 bytes in sets of one.
        for (int length = 256; length <= 330; length++) {
            FlowExporter x = Check.loaded("template " + "source destination port protocol packets bytes first last rate;"
                + "template rate last first bytes packets protocol port destination source;use 1 1;length " + length + ";");
            for (int k = 0; k < 12; k++) {
                x.observe(k, 0, 0, k % 2, 1);
            }
            x.flush();
            int first = (length - 16 - 84) / 33;
            check.due("sets of one, " + length, x.messageLength(0), 100 + 33 * first);
            check.due("the rest, " + length, x.messageByte(1, 11), first);
        }
    }

    private static void one(FlowExporter x) {
        x.observe(1, 0, 0, 0, 1);
        x.flush();
    }

    private static void dueByMessages() {
        FlowExporter x = Check.loaded("refresh 3 100000;");
        check.due("due at first", x.isDue(0), true);
        one(x);
        for (int k = 0; k < 3; k++) {
            check.due("not due after " + k, x.isDue(0), false);
            one(x);
            check.due("length " + k, x.messageLength(k + 1), 49);
        }
        check.due("due after 3", x.isDue(0), true);
        one(x);
        check.due("sent again", x.messageLength(4), 93);
        check.due("not due again", x.isDue(0), false);
        FlowExporter y = Check.loaded("refresh 1 100000;");
        one(y);
        check.due("not due after its own message", y.isDue(0), false);
        one(y);
        check.due("due after one message", y.isDue(0), true);
    }

    private static void dueByTicks() {
        FlowExporter x = Check.loaded("refresh 1000 10;");
        x.advance(5);
        one(x);
        x.advance(9);
        check.due("9 ticks ago", x.isDue(0), false);
        x.advance(1);
        check.due("10 ticks ago", x.isDue(0), true);
        one(x);
        check.due("sent again", x.messageLength(1), 93);
        check.due("not due", x.isDue(0), false);
    }

    private static void dueAgain() {
        FlowExporter x = Check.loaded("template source;template port packets;use 1 1;");
        one(x);
        check.due("0 is sent", x.isDue(0), false);
        check.due("1 is sent with it", x.isDue(1), false);
        x.setSupport(5, false);
        check.due("a field of neither: 0", x.isDue(0), false);
        check.due("a field of neither: 1", x.isDue(1), false);
        x.setSupport(4, true);
        check.due("no change", x.isDue(1), false);
        x.setSupport(4, false);
        check.due("a change", x.isDue(1), true);
        check.due("not of the other one", x.isDue(0), false);
        one(x);
        check.dueObject("only template 1", Check.hex(Check.message(x, 1)).substring(32, 56), "0002000c0101000100020002");
        x.setSupport(4, true);
        x.setSupport(4, false);
        check.due("changed and changed back", x.isDue(1), true);
        one(x);
        x.requestTemplates();
        check.due("requested 0", x.isDue(0), true);
        check.due("requested 1", x.isDue(1), true);
        one(x);
        check.due("sent 0", x.isDue(0), false);
        check.due("sent 1", x.isDue(1), false);
        x.restartExporter();
        check.due("restarted 0", x.isDue(0), true);
        check.due("restarted 1", x.isDue(1), true);
        x.setSupport(0, false);
        x.requestTemplates();
        check.due("without effective fields", x.isDue(0), false);
        x.observe(1, 0, 0, 1, 1);
        x.flush();
        check.due("only 1 is written", x.messageByte(4, 19), 12);
    }

    private static void queueIsFull() {
        FlowExporter x = Check.loaded("refresh 1000 100000;");
        for (int k = 0; k < 12; k++) {
            one(x);
        }
        check.due("12 messages", x.queueLength(), 12);
        check.due("none dropped", x.dropped(), 0);
        x.requestTemplates();
        x.observe(9, 0, 0, 0, 1);
        check.due("flush", x.flush(), 1);
        check.due("still 12", x.queueLength(), 12);
        check.due("dropped", x.dropped(), 1);
        check.due("sent all the same", x.sent(), 13);
        check.due("sequence", x.sequence(), 13);
        check.due("its template counts as sent", x.isDue(0), false);
        check.due("the last one is the old one", x.messageByte(11, 11), 11);
        check.due("duplicate", x.duplicate(0), false);
        check.due("which is no drop", x.dropped(), 1);
        check.due("lose", x.lose(0), 93);
        one(x);
        check.due("room again", x.queueLength(), 12);
        check.due("no drop", x.dropped(), 1);
        check.due("its sequence number", x.messageByte(11, 11), 13);
    }

    private static void queueCalls() {
        FlowExporter x = new FlowExporter();
        for (int k = 0; k < 4; k++) {
            one(x);
        }
        check.due("exchange", x.exchange(1, 3), true);
        check.due("1 is 3", x.messageByte(1, 11), 3);
        check.due("3 is 1", x.messageByte(3, 11), 1);
        check.due("exchange with itself", x.exchange(2, 2), false);
        check.due("duplicate", x.duplicate(1), true);
        check.due("queueLength", x.queueLength(), 5);
        check.dueObject("the copy", Check.hex(Check.message(x, 4)), Check.hex(Check.message(x, 1)));
        check.due("lose", x.lose(0), 93);
        check.due("what was 1 is 0", x.messageByte(0, 11), 3);
        check.due("lose the last", x.lose(3), 49);
        check.due("queueLength", x.queueLength(), 3);
        check.due("the order stays", x.messageByte(1, 11), 2);
        check.due("the order stays, the last", x.messageByte(2, 11), 1);
        // A copy is a message of its own.
        x.duplicate(0);
        x.lose(0);
        check.due("the copy is left", x.messageByte(2, 11), 3);
        check.due("deliver", x.deliver(1), 0);
        check.due("taken out", x.queueLength(), 2);
        check.due("received", x.counter(8), 1);
        check.due("deliverAll", x.deliverAll(), 0);
        check.due("all are out", x.queueLength(), 0);
        check.due("received all", x.counter(8), 3);
        check.due("deliverAll of nothing", x.deliverAll(), 0);
    }

    private static void wrongIndexes() {
        FlowExporter x = new FlowExporter();
        one(x);
        one(x);
        for (int wrong : new int[] {-1, 2, 12, Integer.MAX_VALUE, Integer.MIN_VALUE}) {
            check.dueThrow("messageLength " + wrong, IndexOutOfBoundsException.class, () -> x.messageLength(wrong));
            check.dueThrow("messageByte " + wrong, IndexOutOfBoundsException.class, () -> x.messageByte(wrong, 0));
            check.dueThrow("deliver " + wrong, IndexOutOfBoundsException.class, () -> x.deliver(wrong));
            check.dueThrow("lose " + wrong, IndexOutOfBoundsException.class, () -> x.lose(wrong));
            check.dueThrow("duplicate " + wrong, IndexOutOfBoundsException.class, () -> x.duplicate(wrong));
            check.dueThrow("exchange 0 " + wrong, IndexOutOfBoundsException.class, () -> x.exchange(0, wrong));
            check.dueThrow("exchange " + wrong + " 0", IndexOutOfBoundsException.class, () -> x.exchange(wrong, 0));
            check.dueThrow("exchange " + wrong, IndexOutOfBoundsException.class, () -> x.exchange(wrong, wrong));
        }
        check.due("queueLength", x.queueLength(), 2);
        check.due("messageByte 0 92", x.messageByte(0, 92), 0);
        check.due("messageByte 0 90", x.messageByte(0, 90), 0x80);
        check.due("messageByte 0 93", x.messageByte(0, 93), -1);
        check.due("messageByte 1 49", x.messageByte(1, 49), -1);
        check.due("messageByte 0 -1", x.messageByte(0, -1), -1);
        check.due("messageByte 0 far", x.messageByte(0, Integer.MAX_VALUE), -1);
        check.due("messageByte 0 least", x.messageByte(0, Integer.MIN_VALUE), -1);
    }
}
