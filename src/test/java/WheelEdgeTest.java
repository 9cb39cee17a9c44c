/**
 * THE WHEEL and promises 17 to 22 at their edges: each test is of one sentence of the document, which stands above it.
 */
public final class WheelEdgeTest {
    private static final int LEAST = Integer.MIN_VALUE;
    private static final int GREATEST = Integer.MAX_VALUE;
    /** All that is no number of a NODE, with less than 60 of them. */
    private static final int[] NO_NODES = {-1, 59, 60, 61, LEAST, GREATEST};

    public static void main(String[] args) {
        wheel();
        put();
        run();
        whatComes();
        buses();
        looks();
        about();
        Check.finish();
    }

    private static void wheel() {
        beginsAtZero();
        beginsOfNoNodes();
        registersNeverChange();
        beginsAnew();
    }

    private static void put() {
        putsEachValue();
        noWheelToPutOn();
        noSuchInput();
        noSuchValue();
        sameValue();
        putBack();
        wheelAlone();
    }

    private static void run() {
        byZero();
        byThousand();
        cannotBe();
        noWheelToRun();
        upToNLater();
        inOneOrInMany();
        thosePutNotCounted();
        quietOnes();
    }

    private static void whatComes() {
        delayLater();
        notWhatTheyWereToBeLast();
        lastToldAlone();
        otherValueThen();
        byAllValuesOfThatTime();
        throughSixty();
        lastNodes();
    }

    private static void buses() {
        busesAtOnce();
        busOnBusOnceATime();
        busesWithGatesThatCome();
    }

    private static void looks() {
        onWithoutWheel();
        onWithoutNode();
        firstTwenty();
        timeAndValue();
        noSuchChange();
    }

    private static void about() {
        notQuietUntil();
        howManyAreToCome();
        noneWithoutWheel();
        alsoWithoutWheel();
        anotherWhat();
    }

    private static void wave(GateWheel x, int node, int... changes) {
        for (int k = 0; k < changes.length; k++) {
            Check.due("wave(" + node + ", " + k + ")", x.wave(node, k), changes[k]);
        }
        Check.due("wave(" + node + ", " + changes.length + ")", x.wave(node, changes.length), -1);
    }

    private static void about(GateWheel x, int time, int quiet, int toCome) {
        Check.due("about(2)", x.about(2), time);
        Check.due("about(3)", x.about(3), quiet);
        Check.due("about(4)", x.about(4), toCome);
    }

    /** "It begins, at 0, with all values as they are"; "THE WHEEL begins: true". */
    private static void beginsAtZero() {
        GateWheel x = Check.bench("in a,b,c,d;bus u;u<if1(a,b);g=not(a);reg q(a);reg r(a);");
        Check.set(x, 0, 1, 2, 3);
        x.load(6, 1);
        Check.due("wheel()", x.wheel(), true);
        about(x, 0, 1, 0);
        int[] want = {0, 1, 2, 3, 0, 1, 1, 2};
        for (int i = 0; i < want.length; i++) {
            Check.due("on(" + i + ")", x.on(i), want[i]);
            wave(x, i);
        }
        Check.due("run(0)", x.run(0), 0);
        Check.due("run(1000)", x.run(1000), 0);
        about(x, 1000, 1, 0);
    }

    /** "wheel(): .. true": of a CIRCUIT without NODES, too. */
    private static void beginsOfNoNodes() {
        GateWheel x = new GateWheel();
        Check.due("wheel()", x.wheel(), true);
        about(x, 0, 1, 0);
        Check.due("put(0, 0)", x.put(0, 0), false);
        Check.due("run(7)", x.run(7), 0);
        about(x, 7, 1, 0);
        Check.due("on(0)", x.on(0), -1);
        Check.due("wave(0, 0)", x.wave(0, 0), -1);
    }

    /** "REGISTERS never change on it". */
    private static void registersNeverChange() {
        GateWheel x = Check.bench("in a;reg q(a);g=buf(q);reg r(g,a);");
        Check.set(x, 1);
        x.load(1, 0);
        x.load(3, 0);
        x.wheel();
        x.put(0, 0);
        x.put(0, 1);
        x.run(10);
        Check.due("tick()", x.tick(), 1);
        x.load(3, 1);
        x.run(10);
        Check.due("on(q)", x.on(1), 0);
        Check.due("on(g)", x.on(2), 0);
        Check.due("on(r)", x.on(3), 0);
        wave(x, 1);
        wave(x, 2);
        wave(x, 3);
        Check.due("value(q)", x.value(1), 1);
    }

    /** "(Also anew.)": time, values, WAVES, what is to come and what was put are gone. */
    private static void beginsAnew() {
        GateWheel x = Check.bench("in a;g=not(a)9;h=not(a)1;");
        Check.set(x, 0);
        x.wheel();
        x.put(0, 1);
        x.run(3);
        about(x, 3, 0, 1);
        x.put(0, 2);
        Check.due("wheel() anew", x.wheel(), true);
        about(x, 0, 1, 0);
        int[] want = {0, 1, 1};
        for (int i = 0; i < want.length; i++) {
            Check.due("on(" + i + ")", x.on(i), want[i]);
            wave(x, i);
        }
        Check.due("run(20)", x.run(20), 0);
        x.put(0, 1);
        Check.due("run(9)", x.run(9), 2);
        wave(x, 1, 4 * 29);
        wave(x, 2, 4 * 21);
    }

    /** "put: An INPUT has a value (0 to 3) on the wheel from now on: true". */
    private static void putsEachValue() {
        GateWheel x = Check.bench(Check.inputs(60) + ";");
        x.wheel();
        for (int node : new int[] {0, 31, 32, 59}) {
            for (int v = 0; v <= 3; v++) {
                Check.due("put(" + node + ", " + v + ")", x.put(node, v), true);
                Check.due("on(" + node + ")", x.on(node), v);
            }
            wave(x, node, 0, 1, 2, 3);
        }
        x.run(10);
        Check.due("on(59)", x.on(59), 3);
        Check.due("on(58)", x.on(58), 2);
    }

    /** "put: .. false, doing nothing: no wheel". */
    private static void noWheelToPutOn() {
        GateWheel x = Check.bench("in a;g=not(a);");
        String before = Check.state(x);
        for (int v = 0; v <= 3; v++) {
            Check.due("put(0, " + v + ")", x.put(0, v), false);
        }
        Check.same("put() without a wheel", Check.state(x), before);
        x.wheel();
        about(x, 0, 1, 0);
        Check.due("on(0)", x.on(0), 2);
    }

    private static GateWheel begun() {
        GateWheel x = Check.bench("in a;bus b;b<if1(a,q);g=not(a)3;reg q(a);");
        Check.set(x, 1);
        x.load(3, 1);
        x.wheel();
        x.put(0, 0);
        x.run(1);
        return x;
    }

    /** "put: .. false, doing nothing: .. no such INPUT". */
    private static void noSuchInput() {
        GateWheel x = begun();
        String before = Check.state(x);
        for (int v = 0; v <= 3; v++) {
            for (int node : NO_NODES) {
                Check.due("put(" + node + ", " + v + ")", x.put(node, v), false);
            }
            for (int node = 1; node <= 4; node++) {
                Check.due("put(" + node + ", " + v + ")", x.put(node, v), false);
            }
        }
        Check.same("put() of no INPUT", Check.state(x), before);
        Check.due("run(2)", x.run(2), 1);
    }

    /** "put: .. false, doing nothing: .. no such .. value". */
    private static void noSuchValue() {
        GateWheel x = begun();
        String before = Check.state(x);
        for (int v : new int[] {-1, 4, 5, 256, LEAST, GREATEST}) {
            Check.due("put(0, " + v + ")", x.put(0, v), false);
        }
        Check.same("put() of no value", Check.state(x), before);
    }

    /** "An INPUT put on it with another value changes": with the same one it does not, though put() is true. */
    private static void sameValue() {
        for (int v = 0; v <= 3; v++) {
            GateWheel x = Check.bench("in a;g=not(a);");
            Check.set(x, v);
            x.wheel();
            String before = Check.state(x);
            Check.due("put(0, " + v + ")", x.put(0, v), true);
            Check.same("put() of the same value", Check.state(x), before);
            Check.due("run(5)", x.run(5), 0);
        }
    }

    /** "(that is a change, also when it is put back)". */
    private static void putBack() {
        GateWheel x = Check.bench("in a;g=not(a)2;bus b;b<if1(a,a);");
        Check.set(x, 0);
        x.wheel();
        x.run(3);
        x.put(0, 1);
        x.put(0, 0);
        wave(x, 0, 4 * 3 + 1, 4 * 3);
        Check.due("run(5)", x.run(5), 0);
        wave(x, 0, 4 * 3 + 1, 4 * 3);
        wave(x, 1);
        wave(x, 2);
    }

    /** "put: .. Changed on the wheel alone". */
    private static void wheelAlone() {
        GateWheel x = Check.bench("in a;g=not(a);bus b;b<if1(a,a);b<if0(a,a);");
        Check.set(x, 0);
        x.wheel();
        x.put(0, 1);
        x.run(5);
        int[] values = {0, 1, 0};
        int[] on = {1, 0, 1};
        for (int i = 0; i < 3; i++) {
            Check.due("value(" + i + ")", x.value(i), values[i]);
            Check.due("sharp(" + i + ")", x.sharp(i), values[i]);
            Check.due("on(" + i + ")", x.on(i), on[i]);
        }
        Check.due("about(5)", x.about(5), 0);
        x.put(0, 2);
        Check.due("about(5) with 2 on the wheel", x.about(5), 0);
        x.wheel();
        Check.due("on(0) anew", x.on(0), 0);
    }

    /** "run: The wheel goes on by n (0 to 1000)": 0 looks at what was put, and the time stays. */
    private static void byZero() {
        GateWheel x = Check.bench("in a;g=not(a);bus b;b<if1(a,a);b<if0(a,a);");
        Check.set(x, 0);
        x.wheel();
        Check.due("run(0)", x.run(0), 0);
        x.put(0, 1);
        Check.due("run(0), a BUS follows", x.run(0), 1);
        about(x, 0, 0, 1);
        Check.due("run(0) again", x.run(0), 0);
        about(x, 0, 0, 1);
        Check.due("on(1)", x.on(1), 1);
        Check.due("run(1)", x.run(1), 1);
        about(x, 1, 1, 0);
    }

    /** "run: .. n (0 to 1000)": 1000 is the most. */
    private static void byThousand() {
        GateWheel x = Check.bench("in a;g=not(a)9;");
        Check.set(x, 0);
        x.wheel();
        x.put(0, 1);
        Check.due("run(1000)", x.run(1000), 1);
        about(x, 1000, 1, 0);
        Check.due("run(999)", x.run(999), 0);
        Check.due("about(2)", x.about(2), 1999);
        x.put(0, 0);
        Check.due("run(1)", x.run(1), 0);
        Check.due("run(1000)", x.run(1000), 1);
        wave(x, 1, 4 * 9, 4 * 2008 + 1);
    }

    /** "run: .. NONE: .. n can't be": nothing goes on, what was put is not looked at. */
    private static void cannotBe() {
        GateWheel x = begun();
        x.put(0, 1);
        String before = Check.state(x);
        for (int n : new int[] {-1, -2, -1000, 1001, 1002, 2000, LEAST, GREATEST}) {
            Check.due("run(" + n + ")", x.run(n), -1);
        }
        Check.same("run() that can't be", Check.state(x), before);
        Check.due("on(b), not looked at", x.on(1), 0);
        Check.due("run(0)", x.run(0), 1);
    }

    /** "run: .. NONE: no wheel". */
    private static void noWheelToRun() {
        GateWheel x = Check.bench("in a;g=not(a);");
        for (int n : new int[] {0, 1, 1000, -1, 1001}) {
            Check.due("run(" + n + ")", x.run(n), -1);
        }
        Check.due("about(2)", x.about(2), -1);
    }

    /** "then each time after it up to n later": what comes at n is done, at n + 1 not. */
    private static void upToNLater() {
        for (int delay = 1; delay <= 9; delay++) {
            GateWheel x = Check.bench("in a;g=not(a)" + delay + ";");
            Check.set(x, 0);
            x.wheel();
            x.put(0, 1);
            Check.due("run(" + (delay - 1) + ")", x.run(delay - 1), 0);
            about(x, delay - 1, 0, 1);
            x.wheel();
            x.put(0, 1);
            Check.due("run(" + delay + ")", x.run(delay), 1);
            about(x, delay, 1, 0);
        }
    }

    /** "each time after it up to n later": in one call or in many, it is the same. */
    private static void inOneOrInMany() {
        String text = "in a;n=not(a)3;x=and(a,n)2;y=or(x,n)9;bus b;b<if1(y,a);b<if0(n,x);z=xor(y,b,a)4;";
        GateWheel one = Check.bench(text);
        GateWheel many = Check.bench(text);
        for (GateWheel x : new GateWheel[] {one, many}) {
            Check.set(x, 0);
            x.wheel();
            x.put(0, 1);
        }
        int all = one.run(40);
        int sum = 0;
        for (int i = 0; i < 40; i++) {
            sum += many.run(1);
        }
        Check.due("the changes of 40 calls", sum, all);
        Check.due("there are some", all > 5, true);
        Check.same("run(1) forty times", Check.state(many), Check.state(one));
    }

    /** "how many changes there were (of NODES, those put not counted)": BUSES and GATES, each time anew. */
    private static void thosePutNotCounted() {
        GateWheel x = Check.bench("in a,c;bus b;b<if1(a,a);b<if0(a,a);g=buf(a);h=buf(b)2;k=xor(g,h);");
        Check.set(x, 0, 0);
        x.wheel();
        x.put(0, 1);
        x.put(1, 1);
        Check.due("run(0)", x.run(0), 1);
        Check.due("run(1)", x.run(1), 1);
        Check.due("run(1)", x.run(1), 2);
        Check.due("run(1)", x.run(1), 1);
        Check.due("run(9)", x.run(9), 0);
        wave(x, 5, 4 * 2 + 1, 4 * 3);
        x.put(1, 0);
        Check.due("run(9) with an INPUT on which none hangs", x.run(9), 0);
    }

    /** "The wheel goes on by n": also when nothing is to come, or nothing any more. */
    private static void quietOnes() {
        GateWheel x = Check.bench("in a;g=not(a)2;");
        Check.set(x, 0);
        x.wheel();
        x.run(500);
        about(x, 500, 1, 0);
        x.put(0, 1);
        x.run(1000);
        about(x, 1500, 1, 0);
        wave(x, 1, 4 * 502);
        x.put(0, 0);
        wave(x, 0, 4 * 500 + 1, 4 * 1500);
    }

    /** "what they would be then .. comes DELAY later": 1 to 9, all at once and on their way one behind the other. */
    private static void delayLater() {
        StringBuilder text = new StringBuilder("in a;");
        for (int delay = 1; delay <= 9; delay++) {
            text.append("g").append(delay).append("=not(a)").append(delay).append(";");
        }
        GateWheel x = Check.bench(text.toString());
        Check.set(x, 0);
        x.wheel();
        for (int time = 0; time < 12; time++) {
            x.put(0, 1 - time % 2);
            x.run(1);
        }
        x.run(20);
        for (int delay = 1; delay <= 9; delay++) {
            int[] want = new int[12];
            for (int time = 0; time < 12; time++) {
                want[time] = 4 * (time + delay) + time % 2;
            }
            wave(x, delay, want);
        }
    }

    /** ".. comes DELAY later, if it is not what they were to be last". */
    private static void notWhatTheyWereToBeLast() {
        GateWheel x = Check.bench("in a,c;g=and(a,c)5;");
        Check.set(x, 0, 1);
        x.wheel();
        x.put(0, 1);
        x.run(1);
        about(x, 1, 0, 1);
        // Looked at again, it is to be 1 still: nothing more comes.
        x.put(1, 1);
        x.put(0, 0);
        x.put(0, 1);
        x.run(1);
        about(x, 2, 0, 1);
        // Back to 0, which it has, but was not to be last.
        x.put(0, 0);
        x.run(0);
        about(x, 2, 0, 2);
        Check.due("run(9)", x.run(9), 2);
        wave(x, 2, 4 * 5 + 1, 4 * 7);
    }

    /** "(of several that come to a NODE at one time the last told alone comes". */
    private static void lastToldAlone() {
        GateWheel x = Check.bench("in a;g=buf(a)3;");
        Check.set(x, 0);
        x.wheel();
        for (int v : new int[] {1, 2, 0, 1, 2}) {
            x.put(0, v);
            Check.due("run(0)", x.run(0), 0);
            about(x, 0, 0, 1);
        }
        Check.due("run(3)", x.run(3), 1);
        wave(x, 1, 4 * 3 + 2);
        about(x, 3, 1, 0);
        // One told earlier for another time comes all the same.
        x.put(0, 0);
        x.run(1);
        x.put(0, 1);
        x.run(0);
        x.put(0, 2);
        x.run(0);
        about(x, 4, 0, 2);
        x.run(9);
        wave(x, 1, 4 * 3 + 2, 4 * 6, 4 * 7 + 2);
    }

    /** ".. it is a change if the NODE has another value then)". */
    private static void otherValueThen() {
        GateWheel x = Check.bench("in a;g=buf(a)3;h=not(g);");
        Check.set(x, 0);
        x.wheel();
        x.put(0, 1);
        x.run(0);
        x.put(0, 0);
        x.run(0);
        about(x, 0, 0, 1);
        Check.due("run(2)", x.run(2), 0);
        about(x, 2, 0, 1);
        Check.due("run(1), what comes is no change", x.run(1), 0);
        about(x, 3, 1, 0);
        wave(x, 1);
        wave(x, 2);
    }

    /** "what they would be then (by all values of that time)"; "all that comes is done first". */
    private static void byAllValuesOfThatTime() {
        // Both change at time 2, so that x never sees one without the other.
        GateWheel x = Check.bench("x=xor(g,h);in a;g=buf(a)2;h=buf(a)2;");
        x.set(1, 0);
        x.wheel();
        x.put(1, 1);
        Check.due("run(9)", x.run(9), 2);
        wave(x, 0);
        // Two that are put at one time are seen together, too.
        GateWheel y = Check.bench("in a,b;x=xor(a,b);");
        Check.set(y, 0, 0);
        y.wheel();
        y.put(0, 1);
        y.put(1, 1);
        Check.due("run(9)", y.run(9), 0);
        wave(y, 2);
    }

    /** "each time after it": a change goes through sixty NODES of DELAY 9 and comes when it is due. */
    private static void throughSixty() {
        StringBuilder chain = new StringBuilder();
        for (int i = 59; i > 0; i--) {
            chain.append("n").append(i).append("=not(n").append(i - 1).append(")9;");
        }
        GateWheel x = Check.bench(chain + "in n0;");
        x.set(59, 0);
        x.wheel();
        x.put(59, 1);
        Check.due("run(530)", x.run(530), 58);
        about(x, 530, 0, 1);
        Check.due("run(1)", x.run(1), 1);
        about(x, 531, 1, 0);
        wave(x, 0, 4 * 531);
    }

    /** "GATES that hang on them": by the last of sixty NODES, and the last itself. */
    private static void lastNodes() {
        GateWheel x = Check.bench("g=not(n58);" + Check.inputs(59) + ";");
        x.set(59, 0);
        x.wheel();
        x.put(59, 1);
        Check.due("run(5) with the INPUT last", x.run(5), 1);
        GateWheel y = Check.bench(Check.inputs(59) + ";g=not(n58);");
        y.set(58, 0);
        y.wheel();
        for (int i = 0; i < 58; i++) {
            y.put(i, 1);
        }
        Check.due("run(5) of others", y.run(5), 0);
        y.put(58, 1);
        Check.due("run(5) with the GATE last", y.run(5), 1);
        wave(y, 59, 4 * 6);
    }

    /** "BUSES change at the same time, at once". */
    private static void busesAtOnce() {
        GateWheel x = Check.bench("in d,e;bus b;b<if1(d,e);");
        Check.set(x, 1, 0);
        x.wheel();
        x.run(6);
        for (int e : new int[] {1, 2, 0}) {
            x.put(1, e);
            Check.due("run(0)", x.run(0), 1);
        }
        wave(x, 2, 4 * 6 + 1, 4 * 6 + 2, 4 * 6 + 3);
        about(x, 6, 1, 0);
    }

    /** "they change at one time all the same, each at most once a time": a row of BUSES, told backwards. */
    private static void busOnBusOnceATime() {
        StringBuilder text = new StringBuilder("in d,e;");
        for (int i = 50; i > 0; i--) {
            text.append("bus b").append(i).append(";");
        }
        for (int i = 1; i <= 50; i++) {
            text.append("b").append(i).append("<if1(").append(i == 1 ? "d" : "b" + (i - 1)).append(",e);");
        }
        GateWheel x = Check.bench(text.toString());
        Check.set(x, 0, 1);
        x.wheel();
        x.run(2);
        x.put(0, 1);
        Check.due("run(0)", x.run(0), 50);
        x.run(1);
        x.put(1, 0);
        x.put(0, 0);
        Check.due("run(0)", x.run(0), 50);
        for (int i = 2; i < 52; i++) {
            wave(x, i, 4 * 2 + 1, 4 * 3 + 3);
        }
    }

    /** "(as follows from all GATES, INPUTS of that time)"; "At each time all that comes is done first, then BUSES". */
    private static void busesWithGatesThatCome() {
        // d and e of the DRIVER change at one time: the BUS goes from 0 to OPEN, never by 1.
        GateWheel x = Check.bench("in a;bus b;b<if1(d,e);d=buf(a)3;e=not(a)3;g=buf(b);");
        Check.set(x, 0);
        x.wheel();
        x.put(0, 1);
        Check.due("run(3)", x.run(3), 3);
        wave(x, 1, 4 * 3 + 3);
        Check.due("run(1)", x.run(1), 1);
        wave(x, 4, 4 * 4 + 2);
        // What is put at that time goes with it, when it is looked at.
        GateWheel y = Check.bench("in a,e;bus b;b<if1(g,e);g=buf(a);h=buf(b);");
        Check.set(y, 0, 1);
        y.wheel();
        y.put(0, 1);
        y.put(1, 0);
        Check.due("run(0)", y.run(0), 1);
        Check.due("run(5)", y.run(5), 2);
        wave(y, 2, 3);
        wave(y, 4, 4 + 2);
    }

    /** "on: A NODE's value on the wheel; NONE without a wheel". */
    private static void onWithoutWheel() {
        GateWheel x = Check.bench("in a;bus b;g=not(a);reg q(a);");
        for (int node = 0; node < 4; node++) {
            Check.due("on(" + node + ")", x.on(node), -1);
        }
        x.wheel();
        int[] want = {2, 3, 2, 2};
        for (int node = 0; node < 4; node++) {
            Check.due("on(" + node + ")", x.on(node), want[node]);
        }
    }

    /** "on: .. NONE without .. a NODE". */
    private static void onWithoutNode() {
        GateWheel x = begun();
        for (int node : NO_NODES) {
            Check.due("on(" + node + ")", x.on(node), -1);
        }
        Check.due("on(4) of four", x.on(4), -1);
        GateWheel full = Check.bench(Check.inputs(60) + ";");
        full.wheel();
        Check.due("on(59) of sixty", full.on(59), 2);
        Check.due("on(60) of sixty", full.on(60), -1);
    }

    /** "A WAVE: a NODE's changes on the wheel since it began, the first 20": of INPUTS, BUSES and GATES. */
    private static void firstTwenty() {
        for (int n : new int[] {19, 20, 21, 30}) {
            GateWheel x = Check.bench("in a;bus b;b<if1(a,a);b<if0(a,a);g=buf(a);");
            Check.set(x, 0);
            x.wheel();
            int changes = 0;
            for (int i = 1; i <= n; i++) {
                x.put(0, i % 2);
                changes += x.run(1);
            }
            Check.due("changes, those behind the 20th too", changes, 2 * n);
            int kept = Math.min(n, 20);
            for (int k = 0; k < kept; k++) {
                Check.due("wave(0, " + k + ")", x.wave(0, k), 4 * k + (k + 1) % 2);
                Check.due("wave(1, " + k + ")", x.wave(1, k), 4 * k + (k + 1) % 2);
                Check.due("wave(2, " + k + ")", x.wave(2, k), 4 * (k + 1) + (k + 1) % 2);
            }
            for (int node = 0; node < 3; node++) {
                Check.due("wave(" + node + ", " + kept + ") of " + n, x.wave(node, kept), -1);
                Check.due("on(" + node + ") goes on", x.on(node), n % 2);
            }
            x.wheel();
            Check.due("wave(0, 0) anew", x.wave(0, 0), -1);
        }
    }

    /** "4 * time and its value": each value, at 0 and late. */
    private static void timeAndValue() {
        GateWheel x = Check.bench(Check.inputs(60) + ";");
        x.wheel();
        x.put(59, 0);
        for (int i = 0; i < 100; i++) {
            x.run(1000);
        }
        for (int v = 1; v <= 3; v++) {
            x.put(59, v);
            x.run(1);
        }
        wave(x, 59, 0, 400_001, 400_006, 400_011);
    }

    /** "wave: .. NONE if there is none such": no wheel, no NODE, no change k. */
    private static void noSuchChange() {
        GateWheel x = Check.bench("in a;g=not(a);");
        Check.due("wave(0, 0) without a wheel", x.wave(0, 0), -1);
        x.wheel();
        x.put(0, 0);
        x.run(1);
        for (int node : NO_NODES) {
            Check.due("wave(" + node + ", 0)", x.wave(node, 0), -1);
        }
        Check.due("wave(2, 0) of two", x.wave(2, 0), -1);
        for (int k : new int[] {-1, 1, 2, 19, 20, 21, -20, LEAST, GREATEST}) {
            Check.due("wave(0, " + k + ")", x.wave(0, k), -1);
            Check.due("wave(1, " + k + ")", x.wave(1, k), -1);
        }
        Check.due("wave(0, 0)", x.wave(0, 0), 0);
        Check.due("wave(1, 0)", x.wave(1, 0), 4 + 1);
    }

    /** "until nothing is to come it is not QUIET": the last to come, and what was put. */
    private static void notQuietUntil() {
        GateWheel x = Check.bench("in a;g=not(a)1;h=not(g)9;");
        Check.set(x, 0);
        x.wheel();
        Check.due("about(3) at first", x.about(3), 1);
        x.put(0, 1);
        Check.due("about(3), put", x.about(3), 0);
        for (int time = 0; time < 10; time++) {
            x.run(time == 0 ? 0 : 1);
            Check.due("about(3) at " + time, x.about(3), 0);
        }
        x.run(1);
        Check.due("about(3) at 10", x.about(3), 1);
        x.run(1);
        Check.due("about(3) at 11", x.about(3), 1);
    }

    /** "4: how many are to come": of no GATE, of 59 at once, nine of one. */
    private static void howManyAreToCome() {
        StringBuilder text = new StringBuilder("in a;");
        for (int i = 1; i < 60; i++) {
            text.append("g").append(i).append("=not(a)").append(i % 9 + 1).append(";");
        }
        GateWheel x = Check.bench(text.toString());
        Check.set(x, 0);
        x.wheel();
        Check.due("about(4) at first", x.about(4), 0);
        x.put(0, 1);
        x.run(0);
        Check.due("about(4) of 59", x.about(4), 59);
        int left = 59;
        for (int time = 1; time <= 9; time++) {
            int come = x.run(1);
            left -= come;
            Check.due("run(1) to " + time, come, time == 1 || time > 6 ? 6 : 7);
            Check.due("about(4) at " + time, x.about(4), left);
        }
        Check.due("about(4) at last", left, 0);
        GateWheel y = Check.bench("in a;g=not(a)9;");
        Check.set(y, 0);
        y.wheel();
        for (int time = 0; time < 20; time++) {
            y.put(0, 1 - time % 2);
            y.run(0);
            Check.due("about(4) of one", y.about(4), Math.min(time + 1, 9));
            y.run(1);
        }
    }

    /** "2: the wheel's time (NONE without), 3: .. (NONE without), 4: .. (NONE without)". */
    private static void noneWithoutWheel() {
        GateWheel x = Check.bench("in a;g=not(a);");
        about(x, -1, -1, -1);
        x.put(0, 0);
        x.run(1);
        about(x, -1, -1, -1);
        x.wheel();
        about(x, 0, 1, 0);
        Check.read(x, "in b;");
        about(x, -1, -1, -1);
    }

    /** "0: NODES, 1: REGISTERS, .. 5: OF THEM": without a wheel, too; none and sixty. */
    private static void alsoWithoutWheel() {
        StringBuilder text = new StringBuilder();
        for (int i = 0; i < 60; i++) {
            text.append("reg n").append(i).append("(n0);");
        }
        GateWheel x = Check.bench(text.toString());
        Check.due("about(0) of sixty", x.about(0), 60);
        Check.due("about(1) of sixty", x.about(1), 60);
        Check.due("about(5) of sixty", x.about(5), 60);
        for (int i = 0; i < 60; i++) {
            x.load(i, i % 2);
            Check.due("about(5)", x.about(5), 59 - i);
        }
        GateWheel y = Check.bench("");
        Check.due("about(0) of none", y.about(0), 0);
        Check.due("about(1) of none", y.about(1), 0);
        Check.due("about(5) of none", y.about(5), 0);
        GateWheel z = Check.bench("in a;bus b;g=not(a);");
        Check.due("about(1) without a REGISTER", z.about(1), 0);
        Check.due("about(5)", z.about(5), 1);
        z.wheel();
        z.put(0, 1);
        Check.due("about(5) is not of the wheel", z.about(5), 1);
    }

    /** "about: .. NONE for another what". */
    private static void anotherWhat() {
        GateWheel x = begun();
        for (int what : new int[] {-1, 6, 7, 256, LEAST, GREATEST}) {
            Check.due("about(" + what + ")", x.about(what), -1);
            Check.due("about(" + what + ") without a wheel", new GateWheel().about(what), -1);
        }
    }
}
