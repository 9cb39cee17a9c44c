/** Promises 12 to 16: worlds, legal, sharp, gainsaid, flicker. */
public final class WorldsTest {
    public static void main(String[] args) {
        counts();
        tooMany();
        sharpValues();
        legalWorlds();
        freshAfterChanges();
        gainsaidNever();
        flickers();
        Check.finish();
    }

    private static String inputs(int n) {
        StringBuilder s = new StringBuilder("in i0");
        for (int i = 1; i < n; i++) {
            s.append(",i").append(i);
        }
        return s.append(";").toString();
    }

    private static void counts() {
        for (int n = 1; n <= 12; n++) {
            GateWheel x = Check.bench(inputs(n) + "g=or(i0,i" + (n - 1) + ");");
            Check.due("about(5)", x.about(5), n);
            Check.due("worlds()", x.worlds(), 1 << n);
            Check.due("legal()", x.legal(), 1 << n);
            Check.due("sharp of the last", x.sharp(n - 1), 2);
            Check.due("sharp of the or", x.sharp(n), 2);
        }
        GateWheel x = Check.bench("in a,b;reg q(a);g=not(a);");
        Check.due("about(5)", x.about(5), 3);
        Check.set(x, 3, 1);
        Check.due("worlds() with OPEN", x.worlds(), 4);
        x.load(2, 0);
        Check.due("worlds()", x.worlds(), 2);
        Check.set(x, 0);
        Check.due("worlds()", x.worlds(), 1);
        Check.due("about(5)", x.about(5), 0);
    }

    private static void tooMany() {
        GateWheel x = Check.bench(inputs(12) + "reg q(i0);");
        Check.due("about(5)", x.about(5), 13);
        Check.due("worlds()", x.worlds(), -2);
        Check.due("legal()", x.legal(), -2);
        Check.due("sharp(0)", x.sharp(0), -2);
        Check.due("gainsaid()", x.gainsaid(), -2);
        x.load(12, 1);
        Check.due("worlds()", x.worlds(), 4096);
        Check.due("legal()", x.legal(), 4096);
        Check.due("sharp(12)", x.sharp(12), 1);
        Check.due("sharp(13)", x.sharp(13), -1);
        Check.due("sharp(-1)", x.sharp(-1), -1);
        Check.due("gainsaid()", x.gainsaid(), -1);
    }

    private static void sharpValues() {
        GateWheel x = Check.bench("in a,b;n=not(a);z=and(a,n);o=or(a,n);x=xor(b,b);e=xnor(a,b);m=mux(a,o,o);");
        String[] names = {"a", "n", "z", "o", "x", "e", "m"};
        int[] want = {2, 2, 0, 1, 0, 2, 1};
        for (int i = 0; i < names.length; i++) {
            Check.due("sharp of " + names[i], x.sharp(Check.node(x, names[i])), want[i]);
        }
        Check.due("value of z", Check.value(x, "z"), 2);
        Check.set(x, 1, 1);
        Check.due("sharp of n", x.sharp(Check.node(x, "n")), 0);
        Check.due("sharp of e", x.sharp(Check.node(x, "e")), 1);
    }

    private static void legalWorlds() {
        GateWheel x = Check.bench("in a,b,p,q;bus u;u<if1(a,p);u<if0(b,q);");
        // LEGAL if just one is ON: p 1 and q 1, or p 0 and q 0.
        Check.due("legal()", x.legal(), 8);
        Check.due("sharp(u)", x.sharp(4), 2);
        Check.set(x, 1, 0, 1);
        Check.due("legal()", x.legal(), 1);
        Check.due("sharp(q) in LEGAL WORLDS", x.sharp(3), 1);
        Check.due("sharp(u)", x.sharp(4), 1);
        Check.set(x, 1, 0, 1, 0);
        Check.due("legal() with both ON", x.legal(), 0);
        Check.due("sharp(u)", x.sharp(4), 3);
        Check.due("sharp(a)", x.sharp(0), 3);
        Check.due("gainsaid()", x.gainsaid(), -1);
        GateWheel y = Check.bench("in a;bus u;");
        Check.due("legal() with a BUS without DRIVERS", y.legal(), 0);
        GateWheel z = Check.bench("in a,e;bus u,v;u<if1(a,e);v<if1(a,u);");
        Check.due("legal() with a BUS on a BUS", z.legal(), 1);
        Check.due("sharp(a)", z.sharp(0), 1);
        // Three DRIVERS ON are not one, either.
        GateWheel w = Check.bench("in a,e;bus u;u<if1(a,e);u<if1(a,e);u<if1(a,e);");
        Check.due("legal() with three", w.legal(), 0);
    }

    private static void freshAfterChanges() {
        GateWheel x = Check.bench("in a;reg q(a);g=and(a,q);");
        Check.due("sharp(2)", x.sharp(2), 2);
        Check.set(x, 0);
        Check.due("sharp(2) behind set", x.sharp(2), 0);
        Check.set(x, 1);
        x.load(1, 1);
        Check.due("sharp(2) behind load", x.sharp(2), 1);
        Check.set(x, 0);
        x.load(1, 1);
        Check.due("sharp(1)", x.sharp(1), 1);
        x.tick();
        Check.due("sharp(1) behind tick", x.sharp(1), 0);
        Check.read(x, "in a;bus b;");
        Check.due("legal() behind read", x.legal(), 0);
    }

    private static void gainsaidNever() {
        GateWheel x = Check.bench("in a,b,p,q;bus u;u<if1(a,p);u<if0(b,q);g=and(u,a);h=mux(u,a,b);reg r(h);");
        for (int code = 0; code < 256; code++) {
            Check.set(x, code & 3, code >> 2 & 3, code >> 4 & 3, code >> 6);
            Check.due("gainsaid()", x.gainsaid(), -1);
        }
    }

    private static void flickers() {
        GateWheel x = Check.bench("in s,a,o;n=not(s);x=and(s,a);y=and(n,a);z=or(x,y);k=nand(s,n);m=mux(s,a,a);w=buf(s);");
        Check.set(x, 0, 1, 3);
        int z = Check.node(x, "z");
        int k = Check.node(x, "k");
        Check.due("flicker(0, 0)", x.flicker(0, 0), z);
        Check.due("flicker(0, 1)", x.flicker(0, 1), k);
        Check.due("flicker(0, 2)", x.flicker(0, 2), -1);
        Check.due("flicker(0, -1)", x.flicker(0, -1), -1);
        Check.due("flicker(0, least)", x.flicker(0, Integer.MIN_VALUE), -1);
        Check.due("flicker(0, greatest)", x.flicker(0, Integer.MAX_VALUE), -1);
        Check.due("flicker(1, 0)", x.flicker(1, 0), -1);
        Check.due("flicker by OPEN", x.flicker(2, 0), -1);
        Check.due("flicker by a GATE", x.flicker(3, 0), -1);
        Check.due("flicker(-1, 0)", x.flicker(-1, 0), -1);
        Check.due("flicker(10, 0)", x.flicker(10, 0), -1);
        Check.set(x, 1, 1);
        Check.due("flicker(0, 0)", x.flicker(0, 0), z);
        Check.due("value(0) stays", x.value(0), 1);
        Check.set(x, 1, 0);
        Check.due("flicker(0, 0)", x.flicker(0, 0), k);
        Check.set(x, 2, 1);
        Check.due("flicker by UNKNOWN", x.flicker(0, 0), -1);
        GateWheel y = Check.bench("in a,d;n=not(a);bus u;u<if1(d,a);u<if0(d,a);reg q(a);g=xor(q,a);");
        Check.set(y, 0, 1);
        y.load(4, 0);
        Check.due("flicker of a BUS", y.flicker(0, 0), 3);
        Check.due("flicker(0, 1)", y.flicker(0, 1), -1);
    }
}
