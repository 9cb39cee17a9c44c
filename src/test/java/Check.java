import java.nio.charset.StandardCharsets;

/** What the tests share: feeding a text, comparing an answer with the one that is due, and the exit code. */
final class Check {
    private static int wrong = 0;

    private Check() {
    }

    static void due(String call, long got, long want) {
        if (got != want) {
            wrong++;
            System.out.println(call + " answered " + got + ", due is " + want);
        }
    }

    static void due(String call, boolean got, boolean want) {
        due(call, got ? 1 : 0, want ? 1 : 0);
    }

    static void same(String call, String got, String want) {
        if (!got.equals(want)) {
            wrong++;
            System.out.println(call + " left " + got + ", due is " + want);
        }
    }

    static void finish() {
        if (wrong != 0) {
            System.out.println(wrong + " answers are not as due");
            System.exit(1);
        }
    }

    /** Puts the text on the TAPE, which is empty. */
    static void tape(GateWheel x, String text) {
        tape(x, text.getBytes(StandardCharsets.ISO_8859_1));
    }

    static void tape(GateWheel x, byte[] text) {
        for (int i = 0; i < text.length; i += 20) {
            int[] n = new int[5];
            for (int j = 0; j < 20; j++) {
                int b = i + j < text.length ? text[i + j] & 255 : ' ';
                n[j / 4] = n[j / 4] << 8 | b;
            }
            x.feed(n[0], n[1], n[2], n[3], n[4]);
        }
        due("end(" + text.length + ")", x.end(text.length), text.length);
    }

    static int read(GateWheel x, String text) {
        tape(x, text);
        return x.read();
    }

    /** A new object with this CIRCUIT. */
    static GateWheel bench(String text) {
        GateWheel x = new GateWheel();
        read(x, text);
        due("fault(0) of " + text, x.fault(0), 0);
        return x;
    }

    static long packed(String name) {
        long n = 0;
        for (int i = 0; i < name.length(); i++) {
            n = n << 8 | name.charAt(i);
        }
        return n;
    }

    static int node(GateWheel x, String name) {
        return x.named(packed(name));
    }

    static int value(GateWheel x, String name) {
        return x.value(node(x, name));
    }

    static int on(GateWheel x, String name) {
        return x.on(node(x, name));
    }

    /** All that can be seen without a change, but for the TAPE: what a refused call must leave as it was. */
    static String state(GateWheel x) {
        StringBuilder s = new StringBuilder("faults ").append(x.fault(0)).append(' ').append(x.fault(1));
        return s.append(' ').append(stateBesideFault(x)).toString();
    }

    /** As state, without the FAULT of the latest read(). */
    static String stateBesideFault(GateWheel x) {
        StringBuilder s = new StringBuilder("about");
        for (int what = 0; what <= 5; what++) {
            s.append(' ').append(x.about(what));
        }
        s.append(" legal ").append(x.legal()).append(" of ").append(x.worlds());
        for (int i = 0; i < x.about(0); i++) {
            s.append(" | ").append(i).append(':');
            for (int what = 0; what <= 3; what++) {
                s.append(' ').append(x.node(i, what));
            }
            s.append(" value ").append(x.value(i)).append(" sharp ").append(x.sharp(i)).append(" on ").append(x.on(i));
            for (int k = 0; k < 20 && x.wave(i, k) != -1; k++) {
                s.append(" wave ").append(x.wave(i, k));
            }
        }
        return s.toString();
    }

    /** "in n0,n1, ..", without the ; at its end. */
    static String inputs(int n) {
        StringBuilder s = new StringBuilder("in n0");
        for (int i = 1; i < n; i++) {
            s.append(",n").append(i);
        }
        return s.toString();
    }

    /** Sets the INPUTS 0, 1, .. to these values. */
    static void set(GateWheel x, int... values) {
        for (int i = 0; i < values.length; i++) {
            due("set(" + i + ", " + values[i] + ")", x.set(i, values[i]), true);
        }
    }
}
