import java.util.Random;

/** LANGUAGE.md, rule 7: no call may ever throw or fail to end, for any arguments in any state. */
public final class NeverThrowsTest {
    private static final int[] NUMBERS = {
        0, 1, 2, 3, 4, 5, 6, 19, 20, 21, 59, 60, 61, 63, 64, 65, 1000, 1001, 2000, 2001, 1 << 16, 1 << 30,
        Integer.MAX_VALUE - 1, Integer.MAX_VALUE, Integer.MIN_VALUE, Integer.MIN_VALUE + 1, -2000, -64, -3, -2, -1
    };
    private static final String[] TEXTS = {
        "",
        "in a,b;c=and(a,b)9;",
        "in a;bus b;b<if1(a,a);b<if0(a,a);q=mux(a,b,q2);reg q2(b,a);reg q3(q3);",
        "bus b;x=xor(b,b,b,b,b,b)9;y=not(x);",
        Check.inputs(60) + ";",
        "in a;a", "in a;a=", "a<", "a<if1(", "x=and(x,x);", "in a;in a;", "x=not(y);", "#", "1", "a1234567 8", "reg"
    };

    public static void main(String[] args) {
        timeWrapsAround();
        for (int seed = 0; seed < 200; seed++) {
            anyCalls(new Random(seed), "seed " + seed);
        }
        Check.finish();
    }

    /** What calls behind the 512th answer is free, but they may not throw either. */
    private static void timeWrapsAround() {
        GateWheel x = Check.bench("in a;b=not(a)9;bus c;c<if1(b,a);d=buf(c)3;");
        Check.set(x, 0);
        x.wheel();
        String at = "behind 2,147,483 runs of 1000";
        try {
            for (int i = 0; i < 2_147_483; i++) {
                x.run(1000);
            }
            for (int i = 0; i < 3000; i++) {
                x.put(0, i & 1);
                x.run(i % 7);
            }
            x.run(20);
            Check.due(at + ": about(3)", x.about(3), 1);
            Check.due(at + ": about(4)", x.about(4), 0);
        } catch (RuntimeException e) {
            Check.same(at + ": run", e.toString(), "an answer");
        }
    }

    private static void anyCalls(Random random, String at) {
        GateWheel x = new GateWheel();
        int method = -1;
        try {
            for (int i = 0; i < 2000; i++) {
                method = random.nextInt(24);
                call(x, method, random);
            }
        } catch (RuntimeException e) {
            Check.same(at + ": call " + method, e.toString(), "an answer");
        }
    }

    private static int any(Random random) {
        return random.nextInt(3) == 0 ? random.nextInt(9) - 1 : NUMBERS[random.nextInt(NUMBERS.length)];
    }

    private static void call(GateWheel x, int method, Random random) {
        int a = any(random);
        int b = any(random);
        switch (method) {
            case 0 -> x.feed(a, b, any(random), random.nextInt(), random.nextInt());
            case 1 -> x.end(a);
            case 2 -> x.read();
            case 3 -> x.fault(a);
            case 4 -> x.named((long) a << 32 | b);
            case 5 -> x.node(a, b);
            case 6 -> x.set(a, b);
            case 7 -> x.load(a, b);
            case 8 -> x.value(a);
            case 9 -> x.tick();
            case 10 -> x.worlds();
            case 11 -> x.legal();
            case 12 -> x.sharp(a);
            case 13 -> x.gainsaid();
            case 14 -> x.flicker(a, b);
            case 15 -> x.wheel();
            case 16 -> x.put(a, b);
            case 17 -> x.run(a);
            case 18 -> x.on(a);
            case 19 -> x.wave(a, b);
            case 20 -> x.about(a);
            default -> {
                x.end(0);
                Check.read(x, TEXTS[random.nextInt(TEXTS.length)]);
            }
        }
    }
}
