/** Promises 17 to 22: wheel, put, run, on, wave, about. */
public final class WheelTest {
    public static void main(String[] args) {
        withoutWheel();
        beginsWithValues();
        wrongPuts();
        glitch();
        delays();
        putBack();
        toldAnew();
        quietAfterPut();
        quietWithoutGates();
        busesAtOnce();
        busOnBus();
        longWave();
        runs();
        anew();
        aboutAll();
        Check.finish();
    }

    private static void withoutWheel() {
        GateWheel x = Check.bench("in a;b=not(a);");
        Check.due("put(0, 0)", x.put(0, 0), false);
        Check.due("run(1)", x.run(1), -1);
        Check.due("on(0)", x.on(0), -1);
        Check.due("wave(0, 0)", x.wave(0, 0), -1);
        for (int what = 2; what <= 4; what++) {
            Check.due("about(" + what + ")", x.about(what), -1);
        }
        Check.due("wheel()", x.wheel(), true);
        Check.due("about(2)", x.about(2), 0);
        Check.due("about(3)", x.about(3), 1);
        Check.due("about(4)", x.about(4), 0);
    }

    private static void beginsWithValues() {
        GateWheel x = Check.bench("in a,e;bus u;g=not(a);reg q(g);u<if1(q,e);");
        Check.set(x, 1, 0);
        x.load(4, 1);
        x.wheel();
        int[] want = {1, 0, 3, 0, 1};
        for (int i = 0; i < want.length; i++) {
            Check.due("on(" + i + ")", x.on(i), want[i]);
            Check.due("wave(" + i + ", 0)", x.wave(i, 0), -1);
        }
        Check.due("on(5)", x.on(5), -1);
        Check.due("on(-1)", x.on(-1), -1);
        Check.set(x, 0, 1);
        x.load(4, 0);
        x.tick();
        for (int i = 0; i < want.length; i++) {
            Check.due("on(" + i + ") behind set, load, tick", x.on(i), want[i]);
        }
        Check.due("run(9)", x.run(9), 0);
        x.put(0, 0);
        x.run(9);
        Check.due("q stays on the wheel", x.on(4), 1);
        Check.due("put changes the wheel alone", x.value(0), 0);
        x.put(0, 1);
        Check.due("put changes the wheel alone", x.value(0), 0);
    }

    private static void wrongPuts() {
        GateWheel x = Check.bench("in a;b=not(a);bus u;reg q(a);");
        Check.set(x, 0);
        x.wheel();
        for (int node = 1; node <= 4; node++) {
            Check.due("put(" + node + ", 1)", x.put(node, 1), false);
        }
        Check.due("put(-1, 1)", x.put(-1, 1), false);
        Check.due("put(0, -1)", x.put(0, -1), false);
        Check.due("put(0, 4)", x.put(0, 4), false);
        Check.due("on(0)", x.on(0), 0);
        Check.due("put(0, 0)", x.put(0, 0), true);
        Check.due("wave(0, 0) of the same value", x.wave(0, 0), -1);
        for (int v = 1; v <= 3; v++) {
            Check.due("put(0, v)", x.put(0, v), true);
            Check.due("on(0)", x.on(0), v);
            Check.due("wave(0, ..)", x.wave(0, v - 1), v);
        }
        Check.due("value(0)", x.value(0), 0);
    }

    /** A 0 between two 1s, which value() does not show. */
    private static void glitch() {
        GateWheel x = Check.bench("in s,a;n=not(s)2;x=and(s,a);y=and(n,a);z=or(x,y);");
        Check.set(x, 1, 1);
        x.wheel();
        x.put(0, 0);
        Check.due("on(n) ahead of run", Check.on(x, "n"), 0);
        Check.due("run(0)", x.run(0), 0);
        Check.due("about(4)", x.about(4), 2);
        Check.due("about(3)", x.about(3), 0);
        Check.due("run(10)", x.run(10), 5);
        Check.due("about(2)", x.about(2), 10);
        Check.due("about(3)", x.about(3), 1);
        Check.due("wave of s", x.wave(0, 0), 0);
        Check.due("wave of n", x.wave(2, 0), 4 * 2 + 1);
        Check.due("wave of x", x.wave(3, 0), 4 * 1);
        Check.due("wave of y", x.wave(4, 0), 4 * 3 + 1);
        Check.due("wave of z", x.wave(5, 0), 4 * 2);
        Check.due("wave of z", x.wave(5, 1), 4 * 4 + 1);
        Check.due("wave of z", x.wave(5, 2), -1);
        Check.due("wave of z", x.wave(5, -1), -1);
        Check.due("wave of none", x.wave(6, 0), -1);
        Check.due("wave of none", x.wave(-1, 0), -1);
    }

    private static void delays() {
        StringBuilder text = new StringBuilder("in a;");
        for (int d = 1; d <= 9; d++) {
            text.append("g").append(d).append("=buf(a)").append(d).append(";");
        }
        GateWheel x = Check.bench(text.toString());
        Check.set(x, 0);
        x.wheel();
        x.put(0, 1);
        for (int t = 1; t <= 9; t++) {
            Check.due("run(1)", x.run(1), 1);
            Check.due("on(" + t + ")", x.on(t), 1);
            Check.due("about(4)", x.about(4), 9 - t);
        }
        // Each change goes through, however short it is: all nine are on their way at once.
        for (int t = 0; t < 9; t++) {
            x.put(0, t % 2);
            x.run(1);
        }
        for (int k = 0; k < 9; k++) {
            Check.due("wave(9, " + k + ")", x.wave(9, k), k == 0 ? 4 * 9 + 1 : 4 * (9 + k - 1 + 9) + (k - 1) % 2);
            x.run(1);
        }
    }

    private static void putBack() {
        GateWheel x = Check.bench("in a;b=not(a)3;");
        Check.set(x, 0);
        x.wheel();
        x.put(0, 1);
        x.put(0, 0);
        Check.due("wave(0, 0)", x.wave(0, 0), 1);
        Check.due("wave(0, 1)", x.wave(0, 1), 0);
        Check.due("wave(0, 2)", x.wave(0, 2), -1);
        Check.due("run(9)", x.run(9), 0);
        Check.due("wave(1, 0)", x.wave(1, 0), -1);
    }

    /** Until what was put is looked at, the wheel is not at rest, though no GATE has been told a value. */
    private static void quietAfterPut() {
        GateWheel x = Check.bench("in a; n = not ( a ) 3; x = and ( a, n );");
        x.wheel();
        Check.due("about(3) at first", x.about(3), 1);
        x.put(0, 2);
        Check.due("about(3), put with the same value", x.about(3), 1);
        x.put(0, 4);
        x.put(1, 0);
        Check.due("about(3), not put", x.about(3), 1);
        x.put(0, 0);
        Check.due("about(3), put", x.about(3), 0);
        Check.due("about(4), put", x.about(4), 0);
        Check.due("run(1001)", x.run(1001), -1);
        Check.due("about(3), not run", x.about(3), 0);
        Check.due("run(0)", x.run(0), 0);
        Check.due("about(3), looked at", x.about(3), 0);
        Check.due("about(4), looked at", x.about(4), 2);
        Check.due("run(2)", x.run(2), 1);
        Check.due("about(3), n to come", x.about(3), 0);
        Check.due("run(1)", x.run(1), 1);
        Check.due("about(3), at rest", x.about(3), 1);
        x.put(0, 1);
        Check.due("about(3), put later", x.about(3), 0);
        x.wheel();
        Check.due("about(3), begun anew", x.about(3), 1);
        x.put(0, 1);
        x.put(0, 2);
        Check.due("about(3), put back", x.about(3), 0);
        Check.due("run(0)", x.run(0), 0);
        Check.due("about(3), put back and looked at", x.about(3), 1);
    }

    private static void quietWithoutGates() {
        GateWheel x = Check.bench("in a,e;bus u;u<if1(a,e);");
        Check.set(x, 0, 1);
        x.wheel();
        x.put(0, 1);
        Check.due("about(3), a BUS to follow", x.about(3), 0);
        Check.due("run(0)", x.run(0), 1);
        Check.due("about(3), the BUS followed", x.about(3), 1);
    }

    /** Of two values told for one time the last comes alone, and need be no change. */
    private static void toldAnew() {
        GateWheel x = Check.bench("in a;b=not(a)3;");
        Check.set(x, 0);
        x.wheel();
        x.put(0, 1);
        x.run(0);
        Check.due("about(4)", x.about(4), 1);
        x.put(0, 0);
        x.run(0);
        Check.due("about(4)", x.about(4), 1);
        Check.due("about(3)", x.about(3), 0);
        Check.due("run(3)", x.run(3), 0);
        Check.due("about(3)", x.about(3), 1);
        Check.due("on(1)", x.on(1), 1);
        Check.due("wave(1, 0)", x.wave(1, 0), -1);
        x.put(0, 1);
        x.run(0);
        x.put(0, 2);
        x.run(0);
        Check.due("run(3)", x.run(3), 1);
        Check.due("wave(1, 0)", x.wave(1, 0), 4 * 6 + 2);
    }

    private static void busesAtOnce() {
        GateWheel x = Check.bench("in a,e;bus u;u<if1(a,e);g=buf(u)2;u<if0(n,e);n=not(a);");
        Check.set(x, 1, 1);
        x.wheel();
        x.put(0, 0);
        Check.due("on(u) ahead of run", x.on(2), 1);
        Check.due("run(0)", x.run(0), 1);
        Check.due("on(u)", x.on(2), 0);
        Check.due("run(2)", x.run(2), 2);
        Check.due("on(g)", x.on(3), 0);
        x.put(1, 3);
        Check.due("run(0)", x.run(0), 1);
        Check.due("on(u)", x.on(2), 2);
        x.put(1, 0);
        Check.due("run(0)", x.run(0), 1);
        Check.due("on(u)", x.on(2), 1);
        Check.due("wave(u, 0)", x.wave(2, 0), 0);
        Check.due("wave(u, 1)", x.wave(2, 1), 4 * 2 + 2);
        Check.due("wave(u, 2)", x.wave(2, 2), 4 * 2 + 1);
        x.run(5);
        x.put(0, 1);
        Check.due("the BUS goes with the GATE", x.run(1), 2);
        Check.due("wave(u, 3)", x.wave(2, 3), 4 * 8);
    }

    private static void busOnBus() {
        GateWheel x = Check.bench("in a,e;bus v,u;v<if1(u,e);u<if1(a,e);g=buf(v);");
        Check.set(x, 1, 1);
        x.wheel();
        x.put(0, 0);
        Check.due("run(0)", x.run(0), 2);
        Check.due("on(v)", x.on(2), 0);
        Check.due("run(1)", x.run(1), 1);
        x.put(1, 0);
        Check.due("run(0)", x.run(0), 2);
        Check.due("on(v)", x.on(2), 3);
        Check.due("wave(v, 1)", x.wave(2, 1), 4 + 3);
        Check.due("wave(v, 2)", x.wave(2, 2), -1);
        Check.due("run(1)", x.run(1), 1);
        Check.due("on(g)", x.on(4), 2);
    }

    private static void longWave() {
        GateWheel x = Check.bench("in a;b=not(a);");
        Check.set(x, 0);
        x.wheel();
        for (int i = 1; i <= 25; i++) {
            x.put(0, i % 2);
            Check.due("run(1)", x.run(1), 1);
        }
        Check.due("wave(0, 19)", x.wave(0, 19), 4 * 19);
        Check.due("wave(0, 20)", x.wave(0, 20), -1);
        Check.due("wave(1, 19)", x.wave(1, 19), 4 * 20 + 1);
        Check.due("wave(1, 20)", x.wave(1, 20), -1);
        Check.due("on(0) goes on", x.on(0), 1);
    }

    private static void runs() {
        GateWheel x = Check.bench("in a;b=not(a)9;");
        Check.set(x, 0);
        x.wheel();
        x.put(0, 1);
        Check.due("run(-1)", x.run(-1), -1);
        Check.due("run(1001)", x.run(1001), -1);
        Check.due("run(least)", x.run(Integer.MIN_VALUE), -1);
        Check.due("about(2)", x.about(2), 0);
        Check.due("about(4)", x.about(4), 0);
        Check.due("run(8)", x.run(8), 0);
        Check.due("on(1)", x.on(1), 1);
        Check.due("run(1000)", x.run(1000), 1);
        Check.due("about(2)", x.about(2), 1008);
        Check.due("wave(1, 0)", x.wave(1, 0), 4 * 9);
        x.put(0, 2);
        x.run(1000);
        Check.due("wave(0, 1)", x.wave(0, 1), 4 * 1008 + 2);
        Check.due("wave(1, 1)", x.wave(1, 1), 4 * 1017 + 2);
    }

    private static void anew() {
        GateWheel x = Check.bench("in a;b=not(a)5;");
        Check.set(x, 0);
        x.wheel();
        x.put(0, 1);
        x.run(2);
        Check.set(x, 2);
        Check.due("wheel() anew", x.wheel(), true);
        Check.due("about(2)", x.about(2), 0);
        Check.due("about(3)", x.about(3), 1);
        Check.due("about(4)", x.about(4), 0);
        Check.due("wave(0, 0)", x.wave(0, 0), -1);
        Check.due("on(0)", x.on(0), 2);
        Check.due("on(1)", x.on(1), 2);
        Check.due("run(9)", x.run(9), 0);
        x.put(0, 0);
        x.wheel();
        Check.due("what was put is gone", x.run(9), 0);
        x.put(0, 1);
        x.run(9);
        Check.due("wave(1, 0)", x.wave(1, 0), 4 * 14);
    }

    private static void aboutAll() {
        GateWheel x = Check.bench("in a,b;reg q(a);reg r(b);g=xor(q,r)4;");
        Check.set(x, 1);
        x.load(2, 0);
        x.wheel();
        x.run(7);
        int[] want = {5, 2, 7, 1, 0, 2};
        for (int i = 0; i < want.length; i++) {
            Check.due("about(" + i + ")", x.about(i), want[i]);
        }
        Check.due("about(6)", x.about(6), -1);
        Check.due("about(-1)", x.about(-1), -1);
        Check.due("about(least)", x.about(Integer.MIN_VALUE), -1);
    }
}
