/** Promises 4 to 7: read, fault, named, node. */
public final class ReadTest {
    public static void main(String[] args) {
        tokens();
        grammar();
        names();
        limits();
        linksAndLoops();
        whatStays();
        nodes();
        namedNodes();
        Check.finish();
    }

    /** A text whose FAULT is told. */
    private static void fault(String text, int number, int place) {
        GateWheel x = new GateWheel();
        Check.due("read() of " + text, Check.read(x, text), -1);
        Check.due("fault(0) of " + text, x.fault(0), number);
        Check.due("fault(1) of " + text, x.fault(1), place);
    }

    private static void good(String text, int nodes) {
        GateWheel x = new GateWheel();
        Check.due("read() of " + text, Check.read(x, text), nodes);
        Check.due("fault(0) of " + text, x.fault(0), 0);
        Check.due("fault(1) of " + text, x.fault(1), -1);
        Check.due("fault(2)", x.fault(2), -1);
        Check.due("fault(-1)", x.fault(-1), -1);
    }

    private static void tokens() {
        good("", 0);
        good(" \n ", 0);
        good("in a;b=buf(a);", 2);
        good("in\na\n;\nb\n=\nbuf\n(\na\n)\n2\n;", 2);
        good("in abcdefgh,a1234567;", 2);
        good("in a;b=not(a)9;c=not(a)1 ;", 3);
        fault("in a\t;", 1, 4);
        fault("in A;", 1, 3);
        fault("in a.b;", 1, 4);
        fault("in abcdefghi;", 1, 3);
        fault("in a;b=not(a)0;", 1, 13);
        fault("in a;b=not(a)12;", 1, 13);
        fault("in a;b=not(a)1x;", 1, 13);
        fault("in 1a;", 1, 3);
        fault("in a;b=not(a)1 2;", 2, 15);
        fault("in a>b;", 1, 4);
        fault("\0", 1, 0);
        fault("in a;\r", 1, 5);
        fault("in a;\u00e4", 1, 5);
        fault("ina;", 2, 3);
        fault("in;#", 2, 2);
        fault("in #;", 1, 3);
    }

    private static void grammar() {
        fault("in", 2, 2);
        fault("in a ", 2, 5);
        fault("in a,", 2, 5);
        fault("in a b;", 2, 5);
        fault(";", 2, 0);
        fault("3", 2, 0);
        fault("and;", 2, 0);
        fault("if1;", 2, 0);
        fault("in in;", 2, 3);
        fault("bus a,bus;", 2, 6);
        fault("reg mux(a);", 2, 4);
        fault("in a;b;", 2, 6);
        fault("in a;b=a;", 2, 7);
        fault("in a;b=if1(a,a);", 2, 7);
        fault("in a;b=not a;", 2, 11);
        fault("in a;b=not(not);", 2, 11);
        fault("in a;b=not(a;", 2, 12);
        fault("in a;b=not(a)", 2, 13);
        fault("in a;b=not();", 2, 11);
        fault("in a;b=not(a,a);", 2, 13);
        fault("in a;b=not(a,);", 2, 13);
        fault("in a;b=not(a,#);", 1, 13);
        fault("in a;b=and(a);", 2, 12);
        fault("in a;b=or(a,a,a,a,a,a,a);", 2, 22);
        good("in a;b=or(a,a,a,a,a,a);", 2);
        fault("in a;b=mux(a,a);", 2, 14);
        fault("in a;b=mux(a,a,a,a);", 2, 17);
        fault("in a;reg b();", 2, 11);
        fault("in a;reg b(a,a,a);", 2, 14);
        fault("in a;reg b(a)2;", 2, 13);
        fault("in a;reg b;", 2, 10);
        fault("in a;bus b;b<and(a,a);", 2, 13);
        fault("in a;bus b;b<if1(a);", 2, 18);
        fault("in a;bus b;b<if0(a,a,a);", 2, 20);
        fault("in a;bus b;b<if0(a,a)1;", 2, 21);
        fault("in a;bus b;b<if2(a,a);", 2, 13);
        fault("in a=", 2, 4);
    }

    private static void names() {
        fault("in a,a;", 3, 5);
        fault("in a;bus a;", 3, 9);
        fault("in a;reg a;", 3, 9);
        fault("in a;a=;", 3, 5);
        fault("in a;a;", 2, 6);
        fault("in a;a#", 1, 6);
        fault("a=not(a);a=not(a);", 3, 9);
        fault("in q;in q;#", 3, 8);
    }

    private static String inputs(int n) {
        StringBuilder s = new StringBuilder("in ");
        for (int i = 0; i < n; i++) {
            s.append(i == 0 ? "" : ",").append("n").append(i);
        }
        return s.toString();
    }

    private static void limits() {
        good(inputs(60) + ";", 60);
        fault(inputs(61) + ";", 2, inputs(61).length() - 3);
        String full = inputs(60);
        fault(full + ",n0;", 2, full.length() + 1);
        fault(full + ";bus b;", 2, full.length() + 5);
        fault(full + ";reg b(n0);", 2, full.length() + 5);
        fault(full + ";b=not(n0);", 2, full.length() + 1);
        fault(full + ";b;", 2, full.length() + 2);
        String six = "in a;bus b;" + "b<if1(a,a);".repeat(6);
        good(six, 2);
        fault(six + "b<if1(a,a);", 2, six.length());
        String ahead = "b<if0(a,a);".repeat(7);
        fault(ahead + "in a;bus b;", 2, 66);
        good("in a;bus b,c;" + "b<if1(a,a);c<if0(a,a);".repeat(6), 3);
    }

    private static void linksAndLoops() {
        good("b=not(a);in a;", 2);
        good("b<if1(a,a);bus b;in a;", 2);
        fault("b=not(a);", 4, 6);
        fault("in a;b=and(a,c,d);", 4, 13);
        fault("in a;reg q(a,e);", 4, 13);
        fault("in a;c<if1(a,a);", 4, 5);
        fault("in a;a<if1(a,a);", 4, 5);
        fault("in a;bus b;b<if1(x,a);", 4, 17);
        fault("in a;bus b;b<if1(a,x);b=", 3, 22);
        fault("c=not(c);in a;b=not(x);", 4, 20);
        fault("b=not(b);", 5, 0);
        fault("in a;d=not(c);b=and(a,c);c=or(b,a);", 5, 14);
        fault("in a;bus b;b<if1(b,a);", 5, 9);
        fault("in a;bus b;b<if1(a,c);c=buf(b);", 5, 9);
        fault("in e;bus x,y;x<if1(y,e);y<if0(x,e);", 5, 9);
        good("reg q(q);", 1);
        good("reg q(b,b);b=not(q);", 2);
    }

    private static void whatStays() {
        GateWheel x = Check.bench("in a;b=not(a)3;reg q(b);");
        Check.set(x, 1);
        x.load(2, 0);
        x.wheel();
        x.put(0, 0);
        Check.due("read() of a FAULT", Check.read(x, "in a;b=not(a)"), -1);
        Check.due("about(0)", x.about(0), 3);
        Check.due("value(1)", x.value(1), 0);
        Check.due("value(2)", x.value(2), 0);
        Check.due("on(0)", x.on(0), 0);
        Check.due("run(3)", x.run(3), 1);
        Check.due("on(1)", x.on(1), 1);
        Check.due("node(1, 2)", x.node(1, 2), 3);
        Check.due("named(b)", x.named('b'), 1);
        Check.due("the TAPE is empty behind read()", x.end(1), -1);
        Check.due("read() anew", Check.read(x, "in b;reg a(b);"), 2);
        Check.due("fault(0)", x.fault(0), 0);
        Check.due("fault(1)", x.fault(1), -1);
        Check.due("value(0)", x.value(0), 2);
        Check.due("value(1)", x.value(1), 2);
        Check.due("named(a)", x.named('a'), 1);
        Check.due("value(2)", x.value(2), -1);
        Check.due("about(2)", x.about(2), -1);
        Check.due("on(0)", x.on(0), -1);
        Check.due("run(1)", x.run(1), -1);
        Check.due("read() of nothing", x.read(), 0);
        Check.due("about(0)", x.about(0), 0);
    }

    private static void node(GateWheel x, String name, int kind, int size, int delay, int level) {
        int n = Check.node(x, name);
        Check.due("kind of " + name, x.node(n, 0), kind);
        Check.due("size of " + name, x.node(n, 1), size);
        Check.due("delay of " + name, x.node(n, 2), delay);
        Check.due("level of " + name, x.node(n, 3), level);
        Check.due("node(.., 4)", x.node(n, 4), -1);
        Check.due("node(.., -1)", x.node(n, -1), -1);
    }

    private static void nodes() {
        GateWheel x = Check.bench("g=mux(h,a,q)9;in a;bus b,c;h=not(b);b<if1(a,q);b<if0(a,k);"
            + "reg q(g,h);reg r(h);k=xor(a,a,a,a,a,a);");
        node(x, "g", 2, 3, 9, 4);
        node(x, "a", 0, 0, 0, 0);
        node(x, "b", 1, 2, 0, 2);
        node(x, "c", 1, 0, 0, 0);
        node(x, "h", 2, 1, 1, 3);
        node(x, "q", 3, 2, 0, 0);
        node(x, "r", 3, 1, 0, 0);
        node(x, "k", 2, 6, 1, 1);
        Check.due("node(-1, 0)", x.node(-1, 0), -1);
        Check.due("node(8, 0)", x.node(8, 0), -1);
        Check.due("node(least, 0)", x.node(Integer.MIN_VALUE, 0), -1);
        Check.due("node(greatest, 3)", x.node(Integer.MAX_VALUE, 3), -1);
        StringBuilder chain = new StringBuilder("in n0;");
        for (int i = 59; i > 0; i--) {
            chain.append("n").append(i).append("=buf(n").append(i - 1).append(");");
        }
        GateWheel y = Check.bench(chain.toString());
        Check.due("level of the last", y.node(Check.node(y, "n59"), 3), 59);
        Check.set(y, 1);
        Check.due("value of the last", Check.value(y, "n59"), 1);
    }

    private static void namedNodes() {
        GateWheel x = Check.bench("in abcdefgh,ab,b;bus a;");
        Check.due("named(abcdefgh)", x.named(0x6162636465666768L), 0);
        Check.due("named(ab)", x.named(0x6162L), 1);
        Check.due("named(ab) with 0s between", x.named(0x6100000000006200L), 1);
        Check.due("named(b)", x.named(0x62L << 56), 2);
        Check.due("named(a)", x.named('a'), 3);
        Check.due("named(ba)", x.named(0x6261L), -1);
        Check.due("named(0)", x.named(0), -1);
        Check.due("named(-1)", x.named(-1), -1);
        Check.due("named(in)", x.named(0x696eL), -1);
    }
}
