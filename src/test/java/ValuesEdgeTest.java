/**
 * VALUES and promises 8 to 11 at their edges: each test is of one sentence of the document, which stands above it.
 */
public final class ValuesEdgeTest {
    private static final String[] MANY = {"and", "nand", "or", "nor", "xor", "xnor"};
    private static final int[] TURNED = {1, 0, 2};
    private static final int[] TAKEN_IN = {0, 1, 2, 2};
    private static final int LEAST = Integer.MIN_VALUE;
    private static final int GREATEST = Integer.MAX_VALUE;

    public static void main(String[] args) {
        values();
        setting();
        loading();
        ticking();
        Check.finish();
    }

    private static void values() {
        openTakenInByAGate();
        openTakenInByADriver();
        openTakenInByARegister();
        gatesOfTwoToSix();
        muxWithoutItsChoice();
        driverWithoutItsSwitch();
        allOpen();
        alikeOrNot();
        unknownAtFirst();
        followAtOnce();
        noSuchValue();
    }

    private static void setting() {
        setsEachValue();
        refusesToSet();
        doesNotTouchTheWheel();
    }

    private static void loading() {
        loadsEachValue();
        refusesToLoad();
    }

    private static void ticking() {
        takesAlways();
        takesOrStays();
        takesPerhaps();
        byTheValuesAhead();
        howManyChanged();
        noneToTick();
    }

    /** "Taken in by a GATE .. OPEN is UNKNOWN". */
    private static void openTakenInByAGate() {
        GateWheel x = Check.bench("in a,z,o;bus b;n=not(b);f=buf(b);d=and(b,o);r=or(b,z);x=xor(b,z);m=mux(z,b,o);"
            + "s=mux(b,z,o);i=buf(a);k=and(b,z);l=or(b,o);");
        Check.set(x, 3, 0, 1);
        Check.due("a BUS without DRIVERS", Check.value(x, "b"), 3);
        for (String gate : new String[] {"n", "f", "d", "r", "x", "m", "s", "i"}) {
            Check.due("value of " + gate, Check.value(x, gate), 2);
        }
        Check.due("and with a 0", Check.value(x, "k"), 0);
        Check.due("or with a 1", Check.value(x, "l"), 1);
    }

    /** "Taken in by .. a DRIVER's d .. OPEN is UNKNOWN". */
    private static void openTakenInByADriver() {
        GateWheel x = Check.bench("in a,e;bus b,c,d;c<if1(a,e);d<if1(b,e);");
        Check.set(x, 3, 1);
        Check.due("if1 of an INPUT that is OPEN", Check.value(x, "c"), 2);
        Check.due("if1 of a BUS that is OPEN", Check.value(x, "d"), 2);
        Check.set(x, 3, 0);
        Check.due("if1 with e 0", Check.value(x, "c"), 3);
    }

    /** "Taken in by .. a REGISTER, OPEN is UNKNOWN". */
    private static void openTakenInByARegister() {
        GateWheel x = Check.bench("in a;reg q(a);");
        Check.set(x, 3);
        x.load(1, 1);
        Check.due("tick()", x.tick(), 1);
        Check.due("value(1)", x.value(1), 2);
        Check.due("tick() again", x.tick(), 0);
    }

    /** "and: 0 if one is 0, 1 if all are 1, else UNKNOWN; or: ..; xor: ..; nand, nor, xnor: those turned about". */
    private static void gatesOfTwoToSix() {
        for (int n = 2; n <= 6; n++) {
            String names = Check.inputs(n).substring(3);
            StringBuilder text = new StringBuilder(Check.inputs(n)).append(";");
            for (String gate : MANY) {
                text.append("g").append(gate).append("=").append(gate).append("(").append(names).append(");");
            }
            GateWheel x = Check.bench(text.toString());
            int calls = 0;
            for (int code = 0; code < 1 << 2 * n; code++) {
                if (calls > 400) {
                    x = Check.bench(text.toString());
                    calls = 0;
                }
                checkGates(x, n, code);
                calls += n + 6;
            }
        }
    }

    private static void checkGates(GateWheel x, int n, int code) {
        int[] count = new int[4];
        for (int i = 0; i < n; i++) {
            int v = code >> 2 * i & 3;
            x.set(i, v);
            count[v]++;
        }
        boolean known = count[2] + count[3] == 0;
        int and = count[0] > 0 ? 0 : known ? 1 : 2;
        int or = count[1] > 0 ? 1 : known ? 0 : 2;
        int xor = known ? count[1] % 2 : 2;
        int[] want = {and, TURNED[and], or, TURNED[or], xor, TURNED[xor]};
        for (int i = 0; i < want.length; i++) {
            Check.due(MANY[i] + " of " + n + ", " + Integer.toString(code, 4), x.value(n + i), want[i]);
        }
    }

    /** "mux ( s , a , b ): .. else a if both are the same 0 or 1, else UNKNOWN". */
    private static void muxWithoutItsChoice() {
        GateWheel x = Check.bench("in s,a,b;m=mux(s,a,b);");
        for (int s = 2; s <= 3; s++) {
            for (int a = 0; a <= 3; a++) {
                for (int b = 0; b <= 3; b++) {
                    Check.set(x, s, a, b);
                    Check.due("mux of " + s + ", " + a + ", " + b, x.value(3), a == b && a < 2 ? a : 2);
                }
            }
        }
    }

    /** "A DRIVER gives: if1: .. else UNKNOWN; if0: .. else UNKNOWN". */
    private static void driverWithoutItsSwitch() {
        GateWheel x = Check.bench("in d,e;bus h,l;h<if1(d,e);l<if0(d,e);");
        for (int d = 0; d <= 3; d++) {
            for (int e = 2; e <= 3; e++) {
                Check.set(x, d, e);
                Check.due("if1 of " + d + ", " + e, x.value(2), 2);
                Check.due("if0 of " + d + ", " + e, x.value(3), 2);
            }
        }
    }

    /** n DRIVERS of the BUS u, each of an INPUT, with switches that are set one by one. */
    private static GateWheel drivers(int n) {
        StringBuilder text = new StringBuilder();
        for (int i = 0; i < n; i++) {
            text.append("in d").append(i).append(",e").append(i).append(";");
        }
        text.append("bus u;");
        for (int i = 0; i < n; i++) {
            text.append("u<if").append(i % 2).append("(d").append(i).append(",e").append(i).append(");");
        }
        return Check.bench(text.toString());
    }

    private static void drive(GateWheel x, int driver, int v, boolean on) {
        x.set(2 * driver, v);
        x.set(2 * driver + 1, (driver % 2 == 1) == on ? 1 : 0);
    }

    /** "A BUS has: OPEN if all its DRIVERS give OPEN (or it has none)". */
    private static void allOpen() {
        for (int n = 0; n <= 6; n++) {
            GateWheel x = drivers(n);
            for (int i = 0; i < n; i++) {
                drive(x, i, i % 4, false);
            }
            Check.due("a BUS with " + n + " that give OPEN", x.value(2 * n), 3);
            for (int i = 0; i < n; i++) {
                drive(x, i, 1, true);
                Check.due("a BUS with one that does not", x.value(2 * n), 1);
                drive(x, i, 1, false);
            }
        }
    }

    /** ".. of those that do not, the one value if they are alike, else UNKNOWN": the odd one at each place. */
    private static void alikeOrNot() {
        for (int n = 2; n <= 6; n++) {
            GateWheel x = drivers(n);
            for (int v = 0; v <= 2; v++) {
                for (int i = 0; i < n; i++) {
                    drive(x, i, v, true);
                }
                Check.due("all alike", x.value(2 * n), v);
                for (int i = 0; i < n; i++) {
                    drive(x, i, (v + 1) % 3, true);
                    Check.due("but for " + i, x.value(2 * n), 2);
                    drive(x, i, (v + 1) % 3, false);
                    Check.due("with " + i + " OPEN", x.value(2 * n), v);
                    drive(x, i, v, true);
                }
            }
        }
    }

    /** "INPUTS are UNKNOWN at first, REGISTERS, too": behind each read(). */
    private static void unknownAtFirst() {
        GateWheel x = Check.bench("in a;reg q(a);g=or(a,q);");
        for (int round = 0; round < 2; round++) {
            Check.due("value(0)", x.value(0), 2);
            Check.due("value(1)", x.value(1), 2);
            Check.due("value(2)", x.value(2), 2);
            Check.set(x, 1);
            x.load(1, 1);
            Check.due("value(2)", x.value(2), 1);
            Check.read(x, "in a;reg q(a);g=or(a,q);");
        }
        GateWheel full = Check.bench(Check.inputs(60) + ";");
        Check.due("value(59)", full.value(59), 2);
    }

    /** "Each NODE has the value that follows from INPUTS and REGISTERS at once": through sixty, told backwards. */
    private static void followAtOnce() {
        StringBuilder chain = new StringBuilder();
        for (int i = 59; i > 0; i--) {
            chain.append("n").append(i).append("=not(n").append(i - 1).append(")9;");
        }
        GateWheel x = Check.bench(chain + "in n0;");
        for (int v = 0; v <= 3; v++) {
            Check.due("set(59, " + v + ")", x.set(59, v), true);
            Check.due("the last of sixty", x.value(0), TURNED[TAKEN_IN[v]]);
        }
        GateWheel y = Check.bench(chain + "reg n0(n59);");
        y.load(59, 1);
        Check.due("the last of sixty", y.value(0), 0);
        y.tick();
        Check.due("the last of sixty", y.value(0), 1);
    }

    /** "value: The value of a NODE; NONE if there is none such". */
    private static void noSuchValue() {
        GateWheel x = Check.bench("in a;g=not(a);");
        for (int node : new int[] {-1, 2, 3, 59, 60, LEAST, GREATEST}) {
            Check.due("value(" + node + ")", x.value(node), -1);
        }
        Check.due("value(1)", x.value(1), 2);
        GateWheel full = Check.bench(Check.inputs(60) + ";");
        Check.due("value(60) of sixty", full.value(60), -1);
    }

    /** "set: An INPUT has a value (0 to 3): true". */
    private static void setsEachValue() {
        GateWheel x = Check.bench(Check.inputs(60) + ";");
        for (int node : new int[] {0, 1, 31, 32, 58, 59}) {
            for (int v = 3; v >= 0; v--) {
                Check.due("set(" + node + ", " + v + ")", x.set(node, v), true);
                Check.due("value(" + node + ")", x.value(node), v);
            }
            Check.due("set(" + node + ", 0) again", x.set(node, 0), true);
        }
    }

    /** "set: .. false, doing nothing": no INPUT, no such NODE, no such value. */
    private static void refusesToSet() {
        GateWheel x = Check.bench("in a;bus b;b<if1(a,q);g=not(a);reg q(a);");
        Check.set(x, 1);
        x.load(3, 1);
        String before = Check.state(x);
        for (int v = 0; v <= 3; v++) {
            for (int node : new int[] {1, 2, 3, -1, 4, 59, 60, LEAST, GREATEST}) {
                Check.due("set(" + node + ", " + v + ")", x.set(node, v), false);
            }
        }
        for (int v : new int[] {-1, 4, 5, 256, LEAST, GREATEST}) {
            Check.due("set(0, " + v + ")", x.set(0, v), false);
        }
        Check.same("what set() refused", Check.state(x), before);
    }

    /** "set: .. (The wheel is not touched.)". */
    private static void doesNotTouchTheWheel() {
        GateWheel x = Check.bench("in a;g=not(a);");
        Check.set(x, 0);
        x.wheel();
        Check.set(x, 1);
        Check.due("on(0)", x.on(0), 0);
        Check.due("on(1)", x.on(1), 1);
        Check.due("about(3)", x.about(3), 1);
        Check.due("run(9)", x.run(9), 0);
        Check.due("wave(0, 0)", x.wave(0, 0), -1);
        Check.due("value(1)", x.value(1), 0);
    }

    /** "load: A REGISTER has a value (0 to 2): true". */
    private static void loadsEachValue() {
        GateWheel x = Check.bench(Check.inputs(58) + ";reg q(n0);reg r(n1,q);");
        for (int node = 58; node <= 59; node++) {
            for (int v = 0; v <= 2; v++) {
                Check.due("load(" + node + ", " + v + ")", x.load(node, v), true);
                Check.due("value(" + node + ")", x.value(node), v);
            }
        }
    }

    /** "load: .. false, doing nothing": no REGISTER, no such NODE, no such value; 3, OPEN, is none. */
    private static void refusesToLoad() {
        GateWheel x = Check.bench("in a;bus b;b<if1(a,q);g=not(a);reg q(a);");
        Check.set(x, 1);
        x.load(3, 1);
        String before = Check.state(x);
        for (int v = 0; v <= 3; v++) {
            for (int node : new int[] {0, 1, 2, -1, 4, 59, 60, LEAST, GREATEST}) {
                Check.due("load(" + node + ", " + v + ")", x.load(node, v), false);
            }
        }
        for (int v : new int[] {-1, 3, 4, 256, LEAST, GREATEST}) {
            Check.due("load(3, " + v + ")", x.load(3, v), false);
        }
        Check.same("what load() refused", Check.state(x), before);
    }

    private static void tick(int d, int e, int q, int want) {
        GateWheel x = Check.bench("in d,e;reg q(d,e);");
        Check.set(x, d, e);
        x.load(2, q);
        String of = " with d " + d + ", e " + e + " and " + q;
        Check.due("tick()" + of, x.tick(), want == q ? 0 : 1);
        Check.due("value(2)" + of, x.value(2), want);
        Check.due("value(0)" + of, x.value(0), d);
    }

    /** "e whether (without e: always)". */
    private static void takesAlways() {
        for (int d = 0; d <= 3; d++) {
            for (int q = 0; q <= 2; q++) {
                GateWheel x = Check.bench("in d;reg q(d);");
                Check.set(x, d);
                x.load(1, q);
                Check.due("tick()", x.tick(), TAKEN_IN[d] == q ? 0 : 1);
                Check.due("value(1)", x.value(1), TAKEN_IN[d]);
            }
        }
    }

    /** "each REGISTER becomes d if e is 1; stays if it is 0". */
    private static void takesOrStays() {
        for (int d = 0; d <= 3; d++) {
            for (int q = 0; q <= 2; q++) {
                tick(d, 1, q, TAKEN_IN[d]);
                tick(d, 0, q, q);
            }
        }
    }

    /** "if it is UNKNOWN or OPEN: stays if d and it are the same 0 or 1, else UNKNOWN". */
    private static void takesPerhaps() {
        for (int e = 2; e <= 3; e++) {
            for (int d = 0; d <= 3; d++) {
                for (int q = 0; q <= 2; q++) {
                    tick(d, e, q, d == q ? q : 2);
                }
            }
        }
    }

    /** "(all by the values ahead of the TICK)": rings, an e that is a REGISTER, a GATE between. */
    private static void byTheValuesAhead() {
        GateWheel x = Check.bench("reg a(b);reg b(a);");
        x.load(0, 0);
        x.load(1, 1);
        Check.due("tick() of two that swap", x.tick(), 2);
        Check.due("a", x.value(0), 1);
        Check.due("b", x.value(1), 0);
        GateWheel y = Check.bench("in o;reg e(n);n=not(e);reg q(o,e);");
        Check.set(y, 1);
        y.load(1, 0);
        y.load(3, 0);
        Check.due("tick() with e 0 ahead", y.tick(), 1);
        Check.due("q", y.value(3), 0);
        Check.due("tick() with e 1 ahead", y.tick(), 2);
        Check.due("q", y.value(3), 1);
        Check.due("n follows", y.value(2), 1);
    }

    /** "tick: A TICK: how many REGISTERS changed": none to sixty, and not the NODES that follow. */
    private static void howManyChanged() {
        StringBuilder text = new StringBuilder();
        for (int i = 0; i < 60; i++) {
            text.append("reg n").append(i).append("(n").append((i + 1) % 60).append(");");
        }
        GateWheel x = Check.bench(text.toString());
        Check.due("tick() of sixty that are UNKNOWN", x.tick(), 0);
        x.load(59, 1);
        Check.due("tick() with one 1", x.tick(), 2);
        for (int i = 0; i < 60; i++) {
            x.load(i, i % 2);
        }
        Check.due("tick() of sixty", x.tick(), 60);
        Check.due("tick() of sixty", x.tick(), 60);
        GateWheel y = Check.bench("in a;reg q(a);g=not(q);h=not(g);k=xor(g,h);");
        Check.set(y, 0);
        Check.due("tick() with NODES that follow", y.tick(), 1);
        Check.due("tick() again", y.tick(), 0);
    }

    /** "tick: .. how many": 0 without a REGISTER, and without a NODE. */
    private static void noneToTick() {
        GateWheel x = Check.bench("in a;g=not(a);");
        Check.set(x, 1);
        String before = Check.state(x);
        Check.due("tick() without a REGISTER", x.tick(), 0);
        Check.same("tick() without a REGISTER", Check.state(x), before);
        Check.due("tick() without a NODE", Check.bench("").tick(), 0);
    }
}
