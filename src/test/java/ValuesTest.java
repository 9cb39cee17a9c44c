/** Promises 8 to 11 and the VALUES: set, load, value, tick. */
public final class ValuesTest {
    private static final int[] TURNED = {1, 0, 2};

    public static void main(String[] args) {
        gatesOfTwo();
        gatesOfMany();
        muxes();
        drivers();
        buses();
        setAndLoad();
        ticks();
        Check.finish();
    }

    private static void gatesOfTwo() {
        GateWheel x = Check.bench("in a,b;n=and(a,b);o=or(a,b);x=xor(a,b);"
            + "nn=nand(a,b);no=nor(a,b);nx=xnor(a,b);i=not(a);f=buf(a);");
        int[][] and = {{0, 0, 0, 0}, {0, 1, 2, 2}, {0, 2, 2, 2}, {0, 2, 2, 2}};
        int[][] or = {{0, 1, 2, 2}, {1, 1, 1, 1}, {2, 1, 2, 2}, {2, 1, 2, 2}};
        int[][] xor = {{0, 1, 2, 2}, {1, 0, 2, 2}, {2, 2, 2, 2}, {2, 2, 2, 2}};
        int[] buf = {0, 1, 2, 2};
        for (int a = 0; a < 4; a++) {
            for (int b = 0; b < 4; b++) {
                Check.set(x, a, b);
                String of = " of " + a + ", " + b;
                Check.due("and" + of, Check.value(x, "n"), and[a][b]);
                Check.due("nand" + of, Check.value(x, "nn"), TURNED[and[a][b]]);
                Check.due("or" + of, Check.value(x, "o"), or[a][b]);
                Check.due("nor" + of, Check.value(x, "no"), TURNED[or[a][b]]);
                Check.due("xor" + of, Check.value(x, "x"), xor[a][b]);
                Check.due("xnor" + of, Check.value(x, "nx"), TURNED[xor[a][b]]);
                Check.due("buf" + of, Check.value(x, "f"), buf[a]);
                Check.due("not" + of, Check.value(x, "i"), TURNED[buf[a]]);
            }
        }
    }

    private static void gatesOfMany() {
        GateWheel x = Check.bench("in a,b,c,d,e,f;n=and(a,b,c,d,e,f);o=or(a,b,c,d,e,f);x=xor(a,b,c,d,e,f);y=xnor(a,b,c);");
        Check.set(x, 1, 1, 1, 1, 1, 1);
        Check.due("and", Check.value(x, "n"), 1);
        Check.due("xor", Check.value(x, "x"), 0);
        Check.due("xnor", Check.value(x, "y"), 0);
        Check.set(x, 1, 1, 1, 1, 1, 0);
        Check.due("and", Check.value(x, "n"), 0);
        Check.due("or", Check.value(x, "o"), 1);
        Check.due("xor", Check.value(x, "x"), 1);
        Check.set(x, 0, 0, 0, 0, 0, 2);
        Check.due("or", Check.value(x, "o"), 2);
        Check.due("and", Check.value(x, "n"), 0);
        Check.due("xor", Check.value(x, "x"), 2);
        Check.due("xnor", Check.value(x, "y"), 1);
    }

    private static void muxes() {
        GateWheel x = Check.bench("in s,a,b;m=mux(s,a,b);");
        int[] taken = {0, 1, 2, 2};
        for (int a = 0; a < 4; a++) {
            for (int b = 0; b < 4; b++) {
                int either = a == b && a < 2 ? a : 2;
                int[] want = {taken[a], taken[b], either, either};
                for (int s = 0; s < 4; s++) {
                    Check.set(x, s, a, b);
                    Check.due("mux of " + s + ", " + a + ", " + b, x.value(3), want[s]);
                }
            }
        }
    }

    private static void drivers() {
        GateWheel x = Check.bench("in d,e;bus h,l;h<if1(d,e);l<if0(d,e);");
        int[] taken = {0, 1, 2, 2};
        for (int d = 0; d < 4; d++) {
            for (int e = 0; e < 4; e++) {
                Check.set(x, d, e);
                Check.due("if1 of " + d + ", " + e, x.value(2), e == 1 ? taken[d] : e == 0 ? 3 : 2);
                Check.due("if0 of " + d + ", " + e, x.value(3), e == 0 ? taken[d] : e == 1 ? 3 : 2);
            }
        }
    }

    private static void buses() {
        GateWheel x = Check.bench("in a,b,p,q;bus u,v;u<if1(a,p);u<if1(b,q);i=not(v);k=buf(u);");
        Check.due("a BUS without DRIVERS", Check.value(x, "v"), 3);
        Check.due("OPEN taken in", Check.value(x, "i"), 2);
        Check.set(x, 0, 1, 0, 0);
        Check.due("all OPEN", Check.value(x, "u"), 3);
        Check.due("buf of OPEN", Check.value(x, "k"), 2);
        Check.set(x, 0, 1, 1, 0);
        Check.due("the first alone", Check.value(x, "u"), 0);
        Check.set(x, 0, 1, 0, 1);
        Check.due("the second alone", Check.value(x, "u"), 1);
        Check.set(x, 0, 1, 1, 1);
        Check.due("both, not alike", Check.value(x, "u"), 2);
        Check.set(x, 1, 1, 1, 1);
        Check.due("both, alike", Check.value(x, "u"), 1);
        Check.set(x, 1, 1, 1, 2);
        Check.due("one may be ON", Check.value(x, "u"), 2);
        Check.set(x, 1, 1, 2, 0);
        Check.due("one may be ON, one OPEN", Check.value(x, "u"), 2);
        GateWheel y = Check.bench("in a,e;bus u,v;v<if1(u,e);u<if1(a,e);");
        Check.set(y, 1, 1);
        Check.due("a BUS on a BUS", Check.value(y, "v"), 1);
        Check.set(y, 1, 0);
        Check.due("a BUS on a BUS", Check.value(y, "v"), 3);
    }

    private static void setAndLoad() {
        GateWheel x = Check.bench("in a;bus b;g=not(a);reg q(a);b<if1(a,q);");
        Check.due("value(0)", x.value(0), 2);
        Check.due("value(3)", x.value(3), 2);
        Check.due("set(0, -1)", x.set(0, -1), false);
        Check.due("set(0, 4)", x.set(0, 4), false);
        Check.due("set(-1, 0)", x.set(-1, 0), false);
        Check.due("set(4, 0)", x.set(4, 0), false);
        for (int node = 1; node < 4; node++) {
            Check.due("set(" + node + ", 0)", x.set(node, 0), false);
        }
        Check.due("value(0)", x.value(0), 2);
        Check.due("set(0, 3)", x.set(0, 3), true);
        Check.due("value(0)", x.value(0), 3);
        for (int node = 0; node < 3; node++) {
            Check.due("load(" + node + ", 0)", x.load(node, 0), false);
        }
        Check.due("load(-1, 0)", x.load(-1, 0), false);
        Check.due("load(4, 0)", x.load(4, 0), false);
        Check.due("load(3, 3)", x.load(3, 3), false);
        Check.due("load(3, -1)", x.load(3, -1), false);
        Check.due("load(3, 1)", x.load(3, 1), true);
        Check.due("value(3)", x.value(3), 1);
        Check.set(x, 0);
        Check.due("value(1)", x.value(1), 0);
        Check.due("load(3, 0)", x.load(3, 0), true);
        Check.due("value(1)", x.value(1), 3);
        Check.due("load(3, 2)", x.load(3, 2), true);
        Check.due("value(1)", x.value(1), 2);
        Check.due("value(-1)", x.value(-1), -1);
        Check.due("value(4)", x.value(4), -1);
        Check.due("value(greatest)", x.value(Integer.MAX_VALUE), -1);
    }

    private static void ticks() {
        GateWheel x = Check.bench("in d,e;reg q(d,e);");
        int[] taken = {0, 1, 2, 2};
        for (int d = 0; d < 4; d++) {
            for (int e = 0; e < 4; e++) {
                for (int q = 0; q < 3; q++) {
                    Check.set(x, d, e);
                    x.load(2, q);
                    int want = e == 1 ? taken[d] : e == 0 ? q : d == q && q < 2 ? q : 2;
                    String at = " with " + d + ", " + e + ", " + q;
                    Check.due("tick()" + at, x.tick(), want == q ? 0 : 1);
                    Check.due("value(2)" + at, x.value(2), want);
                }
            }
        }
        // A ring: each takes what the one ahead of it had before the TICK.
        GateWheel y = Check.bench("reg a(c);reg b(a);reg c(b);n=not(a);");
        y.load(0, 1);
        y.load(1, 0);
        y.load(2, 0);
        Check.due("tick()", y.tick(), 2);
        Check.due("a", y.value(0), 0);
        Check.due("b", y.value(1), 1);
        Check.due("c", y.value(2), 0);
        Check.due("n", y.value(3), 1);
        Check.due("tick() without REGISTERS", Check.bench("in a;").tick(), 0);
        GateWheel z = Check.bench("reg q(n);n=not(q);");
        z.load(0, 0);
        Check.due("tick()", z.tick(), 1);
        Check.due("q", z.value(0), 1);
        Check.due("n", z.value(1), 0);
        GateWheel w = Check.bench("in e;bus b;reg q(b);b<if1(e,e);");
        Check.set(w, 0);
        w.load(2, 0);
        Check.due("tick() with d OPEN", w.tick(), 1);
        Check.due("q", w.value(2), 2);
    }
}
