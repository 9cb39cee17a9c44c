/**
 * WORLDS and promises 12 to 16 at their edges: each test is of one sentence of the document, which stands above it.
 */
public final class WorldsEdgeTest {
    private static final int LEAST = Integer.MIN_VALUE;
    private static final int GREATEST = Integer.MAX_VALUE;

    public static void main(String[] args) {
        worlds();
        legal();
        sharp();
        gainsaid();
        flicker();
        Check.finish();
    }

    private static void worlds() {
        eachThatIsUnknownOrOpen();
        othersAsTheyAre();
        powersUpToTwelve();
        moreThanTwelve();
    }

    private static void legal() {
        notGoneThroughByLegal();
        justOneDriver();
        eachBus();
        busWithoutDrivers();
        inAWorldEachIsZeroOrOne();
        asAboveInAWorld();
    }

    private static void sharp() {
        inAllLegalWorlds();
        inSomeZeroInSomeOne();
        oneWorldOfMany();
        noLegalWorld();
        notGoneThroughBySharp();
        noSuchNodeOfSharp();
    }

    private static void gainsaid() {
        noneIsGainsaid();
        notGoneThroughByGainsaid();
    }

    private static void flicker() {
        flickerOfTheLastAndTheFirst();
        sameWithBoth();
        othersAsTheyAreInFlicker();
        kthFlicker();
        inputNotZeroOrOne();
        noSuchInput();
        flickerLeavesAll();
    }

    /** "each INPUT and REGISTER that is UNKNOWN or OPEN is 0 or 1": no BUS, no GATE. */
    private static void eachThatIsUnknownOrOpen() {
        GateWheel x = Check.bench("in a,b;reg q(a);bus u;g=and(a,u);h=not(b);");
        Check.due("about(5)", x.about(5), 3);
        Check.due("worlds()", x.worlds(), 8);
        for (int v = 0; v <= 3; v++) {
            Check.set(x, v);
            Check.due("about(5) with " + v, x.about(5), v < 2 ? 2 : 3);
            Check.due("worlds() with " + v, x.worlds(), v < 2 ? 4 : 8);
        }
        for (int v = 0; v <= 2; v++) {
            x.load(2, v);
            Check.due("about(5) with a REGISTER " + v, x.about(5), v < 2 ? 2 : 3);
        }
    }

    /** "(the others as they are)". */
    private static void othersAsTheyAre() {
        GateWheel x = Check.bench("in a,b;reg q(a);reg r(a);");
        Check.set(x, 0, 1);
        x.load(2, 1);
        x.load(3, 0);
        int[] want = {0, 1, 1, 0};
        for (int i = 0; i < want.length; i++) {
            Check.due("sharp(" + i + ")", x.sharp(i), want[i]);
        }
        Check.due("worlds() with none OF THEM", x.worlds(), 1);
        Check.due("legal() with none OF THEM", x.legal(), 1);
    }

    /** "2 to the power of how many they are (OF THEM, 12 at most": 0 to 12, of 60 INPUTS. */
    private static void powersUpToTwelve() {
        GateWheel x = Check.bench(Check.inputs(60) + ";");
        for (int i = 0; i < 60; i++) {
            x.set(i, i % 2);
        }
        for (int free = 0; free <= 12; free++) {
            Check.due("about(5)", x.about(5), free);
            Check.due("worlds()", x.worlds(), 1 << free);
            Check.due("legal()", x.legal(), 1 << free);
            Check.due("sharp of the next", x.sharp(59 - 4 * free), 1);
            x.set(59 - 4 * free, 2 + free % 2);
            if (free < 12) {
                Check.due("sharp of the latest", x.sharp(59 - 4 * free), 2);
            }
        }
        Check.due("about(5)", x.about(5), 13);
        Check.due("worlds() of 13", x.worlds(), -2);
    }

    /** "worlds: .. -2 if OF THEM there are more than 12": 13 and 60. */
    private static void moreThanTwelve() {
        for (int n : new int[] {13, 14, 31, 32, 33, 60}) {
            GateWheel x = Check.bench(Check.inputs(n) + ";");
            Check.due("about(5)", x.about(5), n);
            Check.due("worlds() of " + n, x.worlds(), -2);
            for (int i = 12; i < n; i++) {
                Check.due("worlds() of " + (n - i + 12), x.worlds(), -2);
                x.set(i, 0);
            }
            Check.due("worlds() of 12", x.worlds(), 4096);
        }
        Check.due("worlds() of 12", Check.bench(Check.inputs(12) + ";").worlds(), 4096);
    }

    /** "legal: .. -2 if they are not gone through". */
    private static void notGoneThroughByLegal() {
        GateWheel x = Check.bench(Check.inputs(12) + ";reg q(n0);bus b;");
        Check.due("legal() of 13", x.legal(), -2);
        x.load(12, 0);
        Check.due("legal() of 12", x.legal(), 0);
        x.load(12, 2);
        Check.due("legal() of 13 again", x.legal(), -2);
    }

    /** "A WORLD is LEGAL if each BUS has just one DRIVER that is ON (e 1 for if1, 0 for if0)": of one to six. */
    private static void justOneDriver() {
        for (int n = 1; n <= 6; n++) {
            StringBuilder text = new StringBuilder(Check.inputs(n)).append(",d;bus b;");
            for (int i = 0; i < n; i++) {
                text.append("b<if").append(1 - i % 2).append("(d,n").append(i).append(");");
            }
            GateWheel x = Check.bench(text.toString());
            x.set(n, 1);
            Check.due("legal() of " + n, x.legal(), n);
            for (int code = 0; code < 1 << n; code++) {
                checkSwitches(x, n, code);
            }
        }
    }

    private static void checkSwitches(GateWheel x, int n, int code) {
        int on = 0;
        for (int i = 0; i < n; i++) {
            int e = code >> i & 1;
            x.set(i, e);
            on += e == 1 - i % 2 ? 1 : 0;
        }
        Check.due("legal() with " + on + " ON of " + n, x.legal(), on == 1 ? 1 : 0);
    }

    /** "LEGAL if each BUS ..": one that has not spoils the WORLD, be it the first or the last NODE. */
    private static void eachBus() {
        GateWheel x = Check.bench("bus b;in d,e,f;b<if1(d,e);bus c;c<if0(d,f);");
        int[] want = {0, 1, 0, 0};
        for (int code = 0; code < 4; code++) {
            x.set(2, code & 1);
            x.set(3, code >> 1);
            Check.due("legal() with e, f of " + code, x.legal(), want[code] * 2);
        }
    }

    /** ".. just one DRIVER": a BUS without DRIVERS has none, in any WORLD. */
    private static void busWithoutDrivers() {
        GateWheel x = Check.bench("in a;bus b;");
        Check.due("legal()", x.legal(), 0);
        Check.set(x, 1);
        Check.due("legal()", x.legal(), 0);
        Check.due("worlds()", x.worlds(), 1);
        Check.due("legal() without BUSES", Check.bench("in a;").legal(), 2);
        Check.due("legal() with nothing but a BUS", Check.bench("bus b;").legal(), 0);
    }

    /** "In a WORLD each NODE is 0 or 1: as above; a BUS has d of its one DRIVER that is ON". */
    private static void inAWorldEachIsZeroOrOne() {
        // As VALUES the XOR of one with itself is UNKNOWN; in each WORLD it is 0.
        GateWheel x = Check.bench("in a,e;bus b;b<if1(a,e);b<if0(n,e);n=not(a);x=xor(a,b);g=xor(b,b);m=mux(a,n,a);");
        Check.due("legal()", x.legal(), 4);
        Check.due("value of g", Check.value(x, "g"), 2);
        Check.due("sharp of g", x.sharp(Check.node(x, "g")), 0);
        Check.due("sharp of m", x.sharp(Check.node(x, "m")), 1);
        Check.due("sharp of b", x.sharp(Check.node(x, "b")), 2);
        x.set(1, 1);
        Check.due("sharp of x with the first ON", x.sharp(Check.node(x, "x")), 0);
        x.set(1, 0);
        Check.due("sharp of x with the second ON", x.sharp(Check.node(x, "x")), 1);
    }

    /** "In a WORLD each NODE is 0 or 1: as above": all GATES, with all that they can take in. */
    private static void asAboveInAWorld() {
        String[] gates = {"and", "or", "nand", "nor", "xor", "xnor"};
        for (int n = 2; n <= 6; n++) {
            String names = Check.inputs(n).substring(3);
            StringBuilder text = new StringBuilder(Check.inputs(n)).append(";i=not(n1);f=buf(n1);m=mux(n1,n0,i);k=mux(n1,i,f);");
            for (String gate : gates) {
                text.append("g").append(gate).append("=").append(gate).append("(").append(names).append(");");
            }
            for (int code = 0; code < 1 << n; code++) {
                GateWheel x = Check.bench(text.toString());
                for (int i = 0; i < n; i++) {
                    x.set(i, code >> i & 1);
                }
                for (int i = 0; i < n + 10; i++) {
                    Check.due("sharp(" + i + ") with " + code + " of " + n, x.sharp(i), x.value(i));
                }
            }
        }
    }

    /** "SHARP .. 0 or 1 if it is so in all LEGAL WORLDS": others do not count. */
    private static void inAllLegalWorlds() {
        GateWheel x = Check.bench("in d,e;bus b;b<if1(d,e);g=not(e);");
        Check.due("legal()", x.legal(), 2);
        Check.due("sharp(e)", x.sharp(1), 1);
        Check.due("sharp(g)", x.sharp(3), 0);
        Check.due("sharp(d)", x.sharp(0), 2);
        Check.due("value(e)", x.value(1), 2);
        x.set(0, 0);
        Check.due("sharp(b)", x.sharp(2), 0);
        x.set(0, 1);
        Check.due("sharp(b)", x.sharp(2), 1);
    }

    /** "SHARP .. 2 if in some 0, in some 1". */
    private static void inSomeZeroInSomeOne() {
        GateWheel x = Check.bench("in a,b;g=and(a,b);h=or(a,b);k=xor(a,b);");
        for (int i = 0; i < 5; i++) {
            Check.due("sharp(" + i + ")", x.sharp(i), 2);
        }
        // An OPEN INPUT is 0 or 1, too.
        Check.set(x, 3, 1);
        Check.due("sharp of one that is OPEN", x.sharp(0), 2);
        Check.due("sharp of its or with 1", x.sharp(3), 1);
    }

    /** ".. in all LEGAL WORLDS", ".. in some": one WORLD of 4,096 decides, the first or the last. */
    private static void oneWorldOfMany() {
        String names = Check.inputs(12).substring(3);
        StringBuilder text = new StringBuilder("in ").append(names).append(";");
        String first = names.substring(0, names.indexOf(",n6"));
        String last = names.substring(names.indexOf("n6"));
        text.append("a=and(").append(first).append(");b=and(").append(last).append(");all=and(a,b);");
        text.append("c=or(").append(first).append(");d=or(").append(last).append(");some=or(c,d);");
        text.append("no=and(all,z);z=not(n11);bus u;u<if1(n3,all);");
        GateWheel x = Check.bench(text.toString());
        Check.due("worlds()", x.worlds(), 4096);
        Check.due("legal() with the last alone", x.legal(), 1);
        Check.due("sharp of all", x.sharp(Check.node(x, "all")), 1);
        Check.due("sharp(0)", x.sharp(0), 1);
        Check.due("sharp(11)", x.sharp(11), 1);
        GateWheel y = Check.bench(text.toString().replace("u<if1(n3,all)", "u<if0(n3,some)"));
        Check.due("legal() with the first alone", y.legal(), 1);
        Check.due("sharp of some", y.sharp(Check.node(y, "some")), 0);
        Check.due("sharp(11)", y.sharp(11), 0);
        GateWheel z = Check.bench(text.toString().replace("bus u;u<if1(n3,all);", ""));
        Check.due("legal() with all", z.legal(), 4096);
        Check.due("sharp of all", z.sharp(Check.node(z, "all")), 2);
        Check.due("sharp of some", z.sharp(Check.node(z, "some")), 2);
        Check.due("sharp of no", z.sharp(Check.node(z, "no")), 0);
    }

    /** "SHARP .. 3 if there is no LEGAL WORLD": of all NODES, also those that are 0 or 1. */
    private static void noLegalWorld() {
        GateWheel x = Check.bench("in a,b;bus u;g=not(a);reg q(a);");
        x.set(0, 1);
        x.load(4, 0);
        for (int i = 0; i < 5; i++) {
            Check.due("sharp(" + i + ")", x.sharp(i), 3);
        }
        Check.due("sharp(5)", x.sharp(5), -1);
        Check.due("gainsaid()", x.gainsaid(), -1);
    }

    /** "sharp: .. -2 if they are not gone through". */
    private static void notGoneThroughBySharp() {
        GateWheel x = Check.bench(Check.inputs(13) + ";g=and(n0,n1);");
        for (int i = 0; i < 14; i++) {
            Check.due("sharp(" + i + ") with 13", x.sharp(i), -2);
        }
        x.set(12, 0);
        Check.due("sharp(12) with 12", x.sharp(12), 0);
        x.set(12, 3);
        Check.due("sharp(12) with 13 again", x.sharp(12), -2);
    }

    /** "sharp: .. NONE if there is none such". */
    private static void noSuchNodeOfSharp() {
        GateWheel x = Check.bench("in a;g=not(a);");
        for (int node : new int[] {-1, 2, 59, 60, 63, 64, 65, LEAST, GREATEST}) {
            Check.due("sharp(" + node + ")", x.sharp(node), -1);
        }
        GateWheel full = Check.bench(Check.inputs(60) + ";");
        for (int i = 0; i < 60; i++) {
            full.set(i, i % 2);
        }
        Check.due("sharp(59)", full.sharp(59), 1);
        Check.due("sharp(58)", full.sharp(58), 0);
        Check.due("sharp(60)", full.sharp(60), -1);
    }

    /** "gainsaid: .. NONE if there is none such": "worlds .. never gainsay what it knows". */
    private static void noneIsGainsaid() {
        String[] texts = {
            "", "in a;", "bus b;", "reg q(q);",
            "in a,e;bus u;u<if1(a,e);u<if0(n,e);n=not(a);g=and(u,a);",
            "in a,e;bus u,v;u<if1(a,e);v<if1(u,e);v<if1(a,a);g=mux(v,u,a);"
        };
        for (String text : texts) {
            GateWheel x = Check.bench(text);
            for (int code = 0; code < 16; code++) {
                x.set(0, code & 3);
                x.set(1, code >> 2);
                Check.due("gainsaid() of " + text, x.gainsaid(), -1);
            }
        }
    }

    /** "gainsaid: .. -2 if they are not gone through". */
    private static void notGoneThroughByGainsaid() {
        GateWheel x = Check.bench(Check.inputs(13) + ";");
        Check.due("gainsaid() with 13", x.gainsaid(), -2);
        x.set(0, 0);
        Check.due("gainsaid() with 12", x.gainsaid(), -1);
        x.set(0, 3);
        Check.due("gainsaid() with 13 again", x.gainsaid(), -2);
    }

    /** "The k-th NODE (by number) at which there is a FLICKER": the last of sixty and the first. */
    private static void flickerOfTheLastAndTheFirst() {
        String text = Check.inputs(57) + ";n=not(n56);a=and(n56,n);b=or(n56,n);";
        GateWheel x = Check.bench(text);
        for (int v = 0; v <= 1; v++) {
            x.set(56, v);
            Check.due("flicker(56, 0)", x.flicker(56, 0), 58);
            Check.due("flicker(56, 1)", x.flicker(56, 1), 59);
            Check.due("flicker(56, 2)", x.flicker(56, 2), -1);
        }
        GateWheel y = Check.bench("g=and(a,n);n=not(a);in a;");
        y.set(2, 1);
        Check.due("flicker(2, 0), of the first NODE", y.flicker(2, 0), 0);
    }

    /** "a NODE that is the same 0 or 1 with both, but UNKNOWN with the INPUT UNKNOWN". */
    private static void sameWithBoth() {
        // f differs; k is the same, but known all the time; o is OPEN with both; u is UNKNOWN with both.
        GateWheel x = Check.bench("in a,z,w;f=buf(a);k=and(a,z);bus o;o<if1(a,z);u=or(a,v);v=buf(o);x=xor(a,w);h=or(a,n);n=not(a);"
            + "bus b;b<if1(a,a);b<if0(z,a);");
        Check.set(x, 0, 0);
        Check.due("value of o", Check.value(x, "o"), 3);
        Check.due("flicker(0, 0)", x.flicker(0, 0), Check.node(x, "h"));
        Check.due("flicker(0, 1)", x.flicker(0, 1), -1);
        // A BUS that is 0 with both: a 1 drives z, a 0 drives z.
        GateWheel y = Check.bench("in a,z;bus b;b<if1(z,a);b<if0(z,a);");
        Check.set(y, 1, 0);
        Check.due("flicker of a BUS", y.flicker(0, 0), 2);
        Check.set(y, 1, 2);
        Check.due("flicker of a BUS that is UNKNOWN", y.flicker(0, 0), -1);
        // OPEN with the INPUT UNKNOWN, or with both, is no FLICKER.
        GateWheel z = Check.bench("in a,z;bus b;b<if1(a,z);");
        Check.set(z, 1, 0);
        Check.due("flicker of a BUS that is OPEN", z.flicker(0, 0), -1);
    }

    /** "(all other INPUTS, REGISTERS as they are)". */
    private static void othersAsTheyAreInFlicker() {
        GateWheel x = Check.bench("in s,a,b;reg q(a);x=and(s,a);y=and(n,b);n=not(s);z=or(x,y);m=mux(s,q,q);w=or(z,q);");
        int z = Check.node(x, "z");
        for (int code = 0; code < 16; code++) {
            Check.set(x, 0, code & 3, code >> 2);
            x.load(3, 1);
            Check.due("flicker with " + code, x.flicker(0, 0), code == 5 ? z : -1);
        }
        Check.set(x, 0, 1, 1);
        x.load(3, 0);
        Check.due("flicker(0, 1) with q 0", x.flicker(0, 1), Check.node(x, "w"));
        x.load(3, 1);
        Check.due("flicker(0, 1) with q 1", x.flicker(0, 1), -1);
    }

    /** "NONE if there is none such": k too small, too large; all up to the last are told in their order. */
    private static void kthFlicker() {
        StringBuilder text = new StringBuilder("in a;n=not(a);");
        for (int i = 2; i < 60; i++) {
            text.append("g").append(i).append(i % 2 == 0 ? "=and(a,n);" : "=nand(n,a);");
        }
        GateWheel x = Check.bench(text.toString());
        Check.set(x, 1);
        for (int k = 0; k < 58; k++) {
            Check.due("flicker(0, " + k + ")", x.flicker(0, k), k + 2);
        }
        for (int k : new int[] {-1, 58, 59, 60, LEAST, GREATEST}) {
            Check.due("flicker(0, " + k + ")", x.flicker(0, k), -1);
        }
    }

    /** "NONE if .. the INPUT is not 0 or 1". */
    private static void inputNotZeroOrOne() {
        GateWheel x = Check.bench("in a;n=not(a);g=and(a,n);");
        for (int v = 0; v <= 3; v++) {
            Check.set(x, v);
            Check.due("flicker(0, 0) by " + v, x.flicker(0, 0), v < 2 ? 2 : -1);
        }
    }

    /** "NONE if .. the INPUT is .. none": another NODE, or no NODE. */
    private static void noSuchInput() {
        GateWheel x = Check.bench("in a;n=not(q);g=and(q,n);bus b;b<if1(a,a);m=not(b);h=or(b,m);reg q(a);");
        Check.set(x, 1);
        x.load(6, 1);
        for (int node : new int[] {1, 2, 3, 4, 5, 6, -1, 7, 59, 60, LEAST, GREATEST}) {
            Check.due("flicker(" + node + ", 0)", x.flicker(node, 0), -1);
        }
        // b is OPEN with a 0, so it is no FLICKER of b, but h is UNKNOWN then and not the same.
        Check.due("flicker(0, 0)", x.flicker(0, 0), -1);
    }

    /** A FLICKER is looked for, not made: nothing changes. */
    private static void flickerLeavesAll() {
        GateWheel x = Check.bench("in a;n=not(a);g=and(a,n);reg q(a);");
        Check.set(x, 1);
        x.wheel();
        String before = Check.state(x);
        x.flicker(0, 0);
        x.flicker(0, 5);
        Check.same("flicker()", Check.state(x), before);
    }
}
