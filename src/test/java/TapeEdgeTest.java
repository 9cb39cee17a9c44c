import java.util.Arrays;

/** Promises 1 to 3 at their edges: each test is of one sentence of the document, which stands above it. */
public final class TapeEdgeTest {
    private static final int BLANKS = 0x20202020;

    public static void main(String[] args) {
        noNodes();
        emptyTape();
        noWheel();
        objectsOfTheirOwn();
        behindThoseOnTheTape();
        highestFirst();
        howManyThereAre();
        nothingComesBeyondTwoThousand();
        firstBytes();
        notSoMany();
        belowZero();
        lastOfAllCalls();
        Check.finish();
    }

    private static int feedBlanks(GateWheel x) {
        return x.feed(BLANKS, BLANKS, BLANKS, BLANKS, BLANKS);
    }

    /** "GateWheel(): No NODES". */
    private static void noNodes() {
        GateWheel x = new GateWheel();
        Check.due("about(0)", x.about(0), 0);
        Check.due("about(1)", x.about(1), 0);
        Check.due("about(5)", x.about(5), 0);
        for (int node : new int[] {0, -1, 59, 60, Integer.MIN_VALUE, Integer.MAX_VALUE}) {
            String of = "(" + node + ") of a new object";
            Check.due("node" + of, x.node(node, 0), -1);
            Check.due("value" + of, x.value(node), -1);
            Check.due("sharp" + of, x.sharp(node), -1);
            Check.due("set" + of, x.set(node, 0), false);
            Check.due("load" + of, x.load(node, 0), false);
            Check.due("flicker" + of, x.flicker(node, 0), -1);
        }
        Check.due("named(0)", x.named(0), -1);
        Check.due("tick()", x.tick(), 0);
        Check.due("worlds() of no NODES", x.worlds(), 1);
        Check.due("legal() of no NODES", x.legal(), 1);
        Check.due("gainsaid()", x.gainsaid(), -1);
    }

    /** "GateWheel(): .. an empty TAPE". */
    private static void emptyTape() {
        Check.due("end(1) of a new object", new GateWheel().end(1), -1);
        Check.due("end(0) of a new object", new GateWheel().end(0), 0);
        Check.due("read() of a new object", new GateWheel().read(), 0);
        Check.due("feed of a new object", feedBlanks(new GateWheel()), 20);
    }

    /** "GateWheel(): .. no wheel". */
    private static void noWheel() {
        GateWheel x = new GateWheel();
        Check.due("run(0) of a new object", x.run(0), -1);
        Check.due("put(0, 0) of a new object", x.put(0, 0), false);
        Check.due("on(0) of a new object", x.on(0), -1);
        Check.due("wave(0, 0) of a new object", x.wave(0, 0), -1);
        for (int what = 2; what <= 4; what++) {
            Check.due("about(" + what + ") of a new object", x.about(what), -1);
        }
    }

    /** A new object has nothing of one that was made before it. */
    private static void objectsOfTheirOwn() {
        GateWheel x = Check.bench("in a;b=not(a);");
        x.wheel();
        feedBlanks(x);
        GateWheel y = new GateWheel();
        Check.due("about(0)", y.about(0), 0);
        Check.due("about(2)", y.about(2), -1);
        Check.due("end(1)", y.end(1), -1);
        Check.read(y, "in b,c,d;");
        Check.set(y, 1);
        Check.due("about(0) of the first", x.about(0), 2);
        Check.due("value(0) of the first", x.value(0), 2);
        Check.due("end(20) of the first", x.end(20), 20);
    }

    /** "Twenty bytes come behind those on the TAPE". */
    private static void behindThoseOnTheTape() {
        GateWheel x = new GateWheel();
        // "in a" and then ",b;" behind it.
        x.feed(0x696e2061, BLANKS, BLANKS, BLANKS, BLANKS);
        x.end(4);
        x.feed(0x2c623b20, BLANKS, BLANKS, BLANKS, BLANKS);
        Check.due("read()", x.read(), 2);
        Check.due("named(b)", x.named('b'), 1);
        GateWheel y = new GateWheel();
        feedBlanks(y);
        y.feed(0x20202021, BLANKS, BLANKS, BLANKS, BLANKS);
        y.read();
        Check.due("fault(1) of a byte of the second feed", y.fault(1), 23);
    }

    /** ".. of each number the highest first": each of the twenty bytes, also with its highest bit. */
    private static void highestFirst() {
        for (int b : new int[] {0, 1, 0x7f, 0x80, 0xff}) {
            for (int place = 0; place < 20; place++) {
                int[] n = {BLANKS, BLANKS, BLANKS, BLANKS, BLANKS};
                int shift = 24 - 8 * (place % 4);
                n[place / 4] = n[place / 4] & ~(255 << shift) | b << shift;
                GateWheel x = new GateWheel();
                x.feed(n[0], n[1], n[2], n[3], n[4]);
                Check.due("read() with a byte " + b, x.read(), -1);
                Check.due("fault(0) with a byte " + b, x.fault(0), 1);
                Check.due("fault(1) with a byte " + b, x.fault(1), place);
            }
        }
    }

    /** ".. how many there are": also behind an end() within the twenty, up to 2,000. */
    private static void howManyThereAre() {
        GateWheel x = new GateWheel();
        for (int i = 1; i <= 100; i++) {
            Check.due("feed no. " + i, feedBlanks(x), 20 * i);
        }
        for (int n = 0; n < 20; n++) {
            x.end(n);
            Check.due("feed behind end(" + n + ")", feedBlanks(x), n + 20);
        }
    }

    /** "NONE, and nothing comes, if there would be more than 2,000": 1980 take twenty more, 1981 to 2000 do not. */
    private static void nothingComesBeyondTwoThousand() {
        for (int n = 1980; n <= 2000; n++) {
            byte[] text = new byte[n];
            Arrays.fill(text, (byte) ' ');
            System.arraycopy("in a;".getBytes(), 0, text, n - 5, 5);
            GateWheel x = new GateWheel();
            Check.tape(x, text);
            Check.due("feed to " + (n + 20), feedBlanks(x), n == 1980 ? 2000 : -1);
            Check.due("end(" + (n + 1) + ")", x.end(n + 1), n == 1980 ? 1981 : -1);
            Check.due("read() of what stayed", x.read(), 1);
        }
        // What is refused is not kept for later, either.
        GateWheel y = new GateWheel();
        for (int i = 0; i < 100; i++) {
            feedBlanks(y);
        }
        Check.due("feed to 2020", y.feed(-1, -1, -1, -1, -1), -1);
        Check.due("feed to 2020 again", y.feed(-1, -1, -1, -1, -1), -1);
        y.end(1990);
        Check.due("feed to 2010", y.feed(-1, -1, -1, -1, -1), -1);
        Check.due("read()", y.read(), 0);
    }

    /** "The TAPE has its first n bytes: n". */
    private static void firstBytes() {
        for (int n = 0; n <= 40; n++) {
            GateWheel x = new GateWheel();
            feedBlanks(x);
            x.feed(-1, BLANKS, BLANKS, BLANKS, BLANKS);
            Check.due("end(" + n + ") of 40", x.end(n), n);
            Check.due("end(" + (n + 1) + ")", x.end(n + 1), -1);
            Check.due("read() of " + n, x.read(), n > 20 ? -1 : 0);
        }
        // What was cut off does not come back with the next feed.
        GateWheel y = new GateWheel();
        y.feed(-1, -1, -1, -1, -1);
        y.end(0);
        Check.due("feed", feedBlanks(y), 20);
        Check.due("read()", y.read(), 0);
        GateWheel full = new GateWheel();
        for (int i = 0; i < 100; i++) {
            feedBlanks(full);
        }
        Check.due("end(2000) of 2000", full.end(2000), 2000);
        Check.due("end(1999) of 2000", full.end(1999), 1999);
        Check.due("end(2000) of 1999", full.end(2000), -1);
    }

    /** "NONE, doing nothing, if it has not so many". */
    private static void notSoMany() {
        for (int n : new int[] {6, 20, 21, 2000, 2001, Integer.MAX_VALUE}) {
            GateWheel x = new GateWheel();
            Check.tape(x, "in a;");
            Check.due("end(" + n + ") of 5", x.end(n), -1);
            Check.due("end(5) of 5", x.end(5), 5);
            Check.due("read()", x.read(), 1);
        }
        GateWheel full = new GateWheel();
        for (int i = 0; i < 100; i++) {
            feedBlanks(full);
        }
        Check.due("end(2001) of 2000", full.end(2001), -1);
        Check.due("end(2000) of 2000", full.end(2000), 2000);
    }

    /** "NONE, doing nothing, if .. n is below 0". */
    private static void belowZero() {
        for (int n : new int[] {-1, -2, -5, -2000, Integer.MIN_VALUE}) {
            GateWheel x = new GateWheel();
            Check.due("end(" + n + ") of an empty TAPE", x.end(n), -1);
            Check.tape(x, "in a;");
            Check.due("end(" + n + ") of 5", x.end(n), -1);
            Check.due("end(5) of 5", x.end(5), 5);
            Check.due("read()", x.read(), 1);
        }
    }

    /** "An object is used for at most 512 calls": the last of them is answered as the first ones. */
    private static void lastOfAllCalls() {
        GateWheel x = new GateWheel();
        // "in a,b;c=and(a,b)2; "
        x.feed(0x696e2061, 0x2c623b63, 0x3d616e64, 0x28612c62, 0x29323b20);
        x.read();
        x.set(1, 1);
        x.wheel();
        x.put(0, 0);
        for (int call = 6; call <= 508; call++) {
            x.run(1000);
        }
        Check.due("about(2), call 509", x.about(2), 503_000);
        Check.due("put(0, 1), call 510", x.put(0, 1), true);
        Check.due("run(1000), call 511", x.run(1000), 1);
        Check.due("wave(2, 1), call 512", x.wave(2, 1), 4 * 503_002 + 1);
    }
}
