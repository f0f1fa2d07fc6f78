import java.util.Objects;

/** Counts answers that are not the ones that are due, and feeds texts and messages to an exporter. */
final class Check {
    private int wrong = 0;
    private int asked = 0;
    private String about = "";

    /** What the next reports are about: it stands before each of them. */
    void about(String text) {
        about = text.isEmpty() ? "" : text + ": ";
    }

    int asked() {
        return asked;
    }

    void due(String call, long got, long want) {
        asked++;
        if (got != want) {
            report(call + " answered " + got + ", due is " + want);
        }
    }

    void due(String call, boolean got, boolean want) {
        asked++;
        if (got != want) {
            report(call + " answered " + got + ", due is " + want);
        }
    }

    void dueDouble(String call, double got, double want) {
        asked++;
        if (Double.doubleToLongBits(got) != Double.doubleToLongBits(want)) {
            report(call + " answered " + got + ", due is " + want);
        }
    }

    void dueObject(String call, Object got, Object want) {
        asked++;
        if (!Objects.equals(got, want)) {
            report(call + " answered " + got + ", due is " + want);
        }
    }

    void dueThrow(String call, Class<? extends RuntimeException> want, Runnable body) {
        asked++;
        Class<?> got = null;
        try {
            body.run();
        } catch (RuntimeException e) {
            got = e.getClass();
        }
        if (got != want) {
            report(call + " threw " + got + ", due is " + want);
        }
    }

    void report(String text) {
        wrong++;
        if (wrong <= 40) {
            System.out.println(about + text);
        }
    }

    boolean isClean() {
        return wrong == 0;
    }

    void finish() {
        if (wrong > 0) {
            System.out.println(wrong + " answers are not as due");
            System.exit(1);
        }
    }

    /** Replaces the input buffer by these bytes. */
    static void put(FlowExporter x, byte[] bytes) {
        x.truncateInput(0);
        for (int at = 0; at < bytes.length; at += 20) {
            int[] words = new int[5];
            for (int k = 0; k < 20; k++) {
                int value = at + k < bytes.length ? bytes[at + k] & 255 : 0;
                words[k / 4] = words[k / 4] << 8 | value;
            }
            x.appendInput(words[0], words[1], words[2], words[3], words[4]);
        }
        x.truncateInput(bytes.length);
    }

    static int load(FlowExporter x, String text) {
        byte[] bytes = new byte[text.length()];
        for (int k = 0; k < bytes.length; k++) {
            bytes[k] = (byte) text.charAt(k);
        }
        put(x, bytes);
        return x.load();
    }

    static FlowExporter loaded(String text) {
        FlowExporter x = new FlowExporter();
        if (load(x, text) < 0) {
            throw new AssertionError("a text with an error at " + x.errorPosition() + ": " + text);
        }
        return x;
    }

    static byte[] message(FlowExporter x, int index) {
        byte[] bytes = new byte[x.messageLength(index)];
        for (int k = 0; k < bytes.length; k++) {
            bytes[k] = (byte) x.messageByte(index, k);
        }
        return bytes;
    }

    static int receive(FlowExporter x, byte[] bytes) {
        put(x, bytes);
        return x.receive();
    }

    static String hex(byte[] bytes) {
        StringBuilder text = new StringBuilder();
        for (byte b : bytes) {
            text.append(String.format("%02x", b & 255));
        }
        return text.toString();
    }

    /** Bytes from hexadecimal digits; spaces have no meaning. */
    static byte[] bytes(String hex) {
        String digits = hex.replace(" ", "");
        byte[] bytes = new byte[digits.length() / 2];
        for (int k = 0; k < bytes.length; k++) {
            bytes[k] = (byte) Integer.parseInt(digits.substring(2 * k, 2 * k + 2), 16);
        }
        return bytes;
    }

    /** A message with a right length field. */
    static byte[] framed(int time, int sequence, int records, String sets) {
        byte[] body = bytes(sets);
        return bytes(String.format("000a%04x%08x%08x%08x", 16 + body.length, time, sequence, records)
            + hex(body));
    }
}
