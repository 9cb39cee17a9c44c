/** Promises 1 to 3: a new object, feed, end. */
public final class TapeTest {
    public static void main(String[] args) {
        newObject();
        feedBytes();
        feedLimit();
        endOfTape();
        Check.finish();
    }

    private static void newObject() {
        GateWheel x = new GateWheel();
        Check.due("NONE", GateWheel.NONE, -1);
        Check.due("about(0)", x.about(0), 0);
        Check.due("about(1)", x.about(1), 0);
        Check.due("about(5)", x.about(5), 0);
        for (int what = 2; what <= 4; what++) {
            Check.due("about(" + what + ") without a wheel", x.about(what), -1);
        }
        Check.due("end(1)", x.end(1), -1);
        Check.due("fault(0)", x.fault(0), 0);
        Check.due("fault(1)", x.fault(1), -1);
        Check.due("named(97)", x.named(97), -1);
        Check.due("named(0)", x.named(0), -1);
        Check.due("node(0, 0)", x.node(0, 0), -1);
        Check.due("value(0)", x.value(0), -1);
        Check.due("set(0, 0)", x.set(0, 0), false);
        Check.due("load(0, 0)", x.load(0, 0), false);
        Check.due("tick()", x.tick(), 0);
        Check.due("worlds()", x.worlds(), 1);
        Check.due("legal()", x.legal(), 1);
        Check.due("sharp(0)", x.sharp(0), -1);
        Check.due("gainsaid()", x.gainsaid(), -1);
        Check.due("flicker(0, 0)", x.flicker(0, 0), -1);
        Check.due("put(0, 0)", x.put(0, 0), false);
        Check.due("run(0)", x.run(0), -1);
        Check.due("on(0)", x.on(0), -1);
        Check.due("wave(0, 0)", x.wave(0, 0), -1);
        Check.due("read()", x.read(), 0);
        Check.due("wheel()", x.wheel(), true);
        Check.due("run(5)", x.run(5), 0);
        Check.due("about(2)", x.about(2), 5);
    }

    private static void feedBytes() {
        GateWheel x = new GateWheel();
        // "in a,bb ; c = or (a," and the rest: the highest byte of each number is the first.
        Check.due("feed", x.feed(0x696e2061, 0x2c626220, 0x3b206320, 0x3d206f72, 0x2028612c), 20);
        Check.due("feed", x.feed(0x62622937, 0x3b202020, 0x20202020, 0x20202020, 0x20202020), 40);
        Check.due("read()", x.read(), 3);
        Check.due("named(bb)", x.named(0x6262), 1);
        Check.due("node(2, 2)", x.node(2, 2), 7);
        GateWheel y = new GateWheel();
        Check.due("feed of bytes above 127", y.feed(-1, -1, -1, -1, -1), 20);
        Check.due("read()", y.read(), -1);
        Check.due("fault(0)", y.fault(0), 1);
        Check.due("fault(1)", y.fault(1), 0);
    }

    private static void feedLimit() {
        GateWheel x = new GateWheel();
        int blanks = 0x20202020;
        for (int i = 1; i <= 100; i++) {
            Check.due("feed no. " + i, x.feed(blanks, blanks, blanks, blanks, blanks), 20 * i);
        }
        Check.due("feed beyond 2000", x.feed(0, 0, 0, 0, 0), -1);
        Check.due("end(1981)", x.end(1981), 1981);
        Check.due("feed to 2001", x.feed(0, 0, 0, 0, 0), -1);
        Check.due("end(1980)", x.end(1980), 1980);
        Check.due("feed to 2000", x.feed(blanks, blanks, blanks, blanks, blanks), 2000);
        Check.due("read() of blanks", x.read(), 0);
        Check.due("feed behind read()", x.feed(0, 0, 0, 0, 0), 20);
    }

    private static void endOfTape() {
        GateWheel x = new GateWheel();
        Check.due("end(0)", x.end(0), 0);
        x.feed(0x696e2061, 0x3b202020, 0x20202020, 0x20202020, 0x20202021);
        Check.due("end(-1)", x.end(-1), -1);
        Check.due("end(21)", x.end(21), -1);
        Check.due("end(least)", x.end(Integer.MIN_VALUE), -1);
        Check.due("end(greatest)", x.end(Integer.MAX_VALUE), -1);
        Check.due("end(20)", x.end(20), 20);
        Check.due("end(5)", x.end(5), 5);
        Check.due("end(6)", x.end(6), -1);
        Check.due("read()", x.read(), 1);
        Check.due("end(1) behind read()", x.end(1), -1);
    }
}
