import java.util.ArrayList;
import java.util.Collections;
import java.util.List;
import java.util.Random;

/** Random CIRCUITS, texts with FAULTS and runs of calls, each answer compared with that of Model. */
public final class ModelTest {
    private static final String[] MANY = {"and", "or", "nand", "nor", "xor", "xnor"};
    private static final String[] BITS = {
        "in", "bus", "reg", "if1", "if0", "and", "not", "mux", "a", "b", "c", "q1", "abcdefgh", "abcdefghi",
        ",", ";", "=", "(", ")", "<", "1", "9", "0", "12", "3x", " ", "\n", "#", "\u0080", "A", "\0"
    };

    private final Random random;
    private final GateWheel x = new GateWheel();
    private final Model m = new Model();
    private final List<String> told = new ArrayList<>();
    /** In how many places the latest text was spoilt, as far as is known. */
    private int spoils;

    private ModelTest(long seed) {
        random = new Random(seed);
    }

    public static void main(String[] args) {
        for (int seed = 0; seed < 3000; seed++) {
            new ModelTest(seed).play("seed " + seed, seed % 3 == 0 ? 4 + seed % 50 : 3 + seed % 12);
        }
        for (int seed = 0; seed < 60; seed++) {
            new ModelTest(seed).playLarge("large " + seed);
        }
        for (int seed = 0; seed < 400; seed++) {
            new ModelTest(seed).playOn("session " + seed);
        }
        int good = 0;
        for (int seed = 0; seed < 30000; seed++) {
            good += new ModelTest(seed).readSpoilt("spoilt " + seed) ? 1 : 0;
        }
        Check.due("some spoilt texts are CIRCUITS still", good > 300, true);
        Check.finish();
    }

    private int below(int n) {
        return random.nextInt(n);
    }

    private String any() {
        return told.get(below(told.size()));
    }

    /** A NODE's line may come anywhere, so the lines are mixed; only GATES and BUSES ahead are hung on. */
    private String circuit(int size) {
        List<String> lines = new ArrayList<>();
        List<String> buses = new ArrayList<>();
        told.clear();
        int sources = 1 + below(Math.max(1, Math.min(size, 9)));
        List<String> registers = new ArrayList<>();
        for (int i = 0; i < sources; i++) {
            String name = name(i);
            told.add(name);
            if (below(4) == 0) {
                registers.add(name);
            } else {
                lines.add("in " + name + ";");
            }
        }
        for (int i = sources; i < size; i++) {
            String name = name(i);
            if (below(4) == 0) {
                lines.add("bus " + name + ";");
                int drivers = below(8) == 0 ? below(7) : 1 + below(2);
                String e = any();
                for (int j = 0; j < drivers; j++) {
                    lines.add(name + "<if" + (below(2) == 0 ? j & 1 : below(2)) + "(" + any() + ","
                        + (below(3) > 0 ? e : any()) + ");");
                }
                buses.add(name);
            } else {
                lines.add(name + "=" + gate() + (below(2) == 0 ? "" : 1 + below(9)) + ";");
            }
            told.add(name);
        }
        for (String q : registers) {
            lines.add("reg " + q + "(" + any() + (below(2) == 0 ? "" : "," + any()) + ");");
        }
        if (below(3) > 0) {
            Collections.shuffle(lines, random);
        }
        return String.join(below(2) == 0 ? "" : below(2) == 0 ? "\n" : " ", lines);
    }

    private static String name(int i) {
        return i % 7 == 6 ? "long" + i : "n" + i;
    }

    private String gate() {
        int pick = below(9);
        if (pick == 0) {
            return "mux(" + any() + "," + any() + "," + any() + ")";
        }
        if (pick == 1) {
            return (below(2) == 0 ? "not(" : "buf(") + any() + ")";
        }
        StringBuilder s = new StringBuilder(MANY[below(6)]).append("(").append(any());
        int more = below(4) == 0 ? 1 + below(5) : 1;
        for (int i = 0; i < more; i++) {
            s.append(",").append(any());
        }
        return s.append(")").toString();
    }

    private void read(String at, String text) {
        Check.tape(x, text);
        m.tape(text);
        Check.due(at + ": read() of " + text, x.read(), m.read());
        Check.due(at + ": fault(0) of " + text, x.fault(0), m.fault(0));
        Check.due(at + ": fault(1) of " + text, x.fault(1), m.fault(1));
    }

    private String fitting(String text) {
        return text.length() > 2000 ? text.substring(0, 2000) : text;
    }

    private boolean readSpoilt(String at) {
        read(at, spoilt(4));
        return x.fault(0) == 0 && spoils > 0;
    }

    private String spoilt(int most) {
        StringBuilder s = new StringBuilder(fitting(circuit(1 + below(12))));
        spoils = below(most);
        for (int i = 0; i < spoils; i++) {
            int place = below(s.length() + 1);
            int end = Math.min(s.length(), place + below(3));
            String bit = below(3) == 0 ? "" : below(3) == 0 ? any() : BITS[below(BITS.length)];
            s.replace(place, end, bit);
        }
        if (below(10) == 0) {
            s.setLength(below(s.length() + 1));
        }
        return fitting(s.toString());
    }

    private void play(String at, int size) {
        read(at, fitting(circuit(Math.min(60, size))));
        for (int i = 0; i < m.size(); i++) {
            for (int what = 0; what < 4; what++) {
                Check.due(at + ": node(" + i + ", " + what + ")", x.node(i, what), m.node(i, what));
            }
            Check.due(at + ": named", Check.node(x, name(i)), m.named(name(i)));
        }
        for (int call = 0; call < 60; call++) {
            step(at + ", call " + call);
        }
    }

    /** Eight to twelve INPUTS and REGISTERS that are free: more WORLDS than a long has bits. */
    private void playLarge(String at) {
        StringBuilder text = new StringBuilder();
        int free = 8 + below(5);
        for (int i = 0; i < free; i++) {
            told.add("s" + i);
            text.append(i % 5 == 4 ? "reg s" + i + "(s0);" : "in s" + i + ";");
        }
        for (int i = 0; i < 8; i++) {
            if (i == 4) {
                String e = any();
                text.append("bus g4;g4<if1(" + any() + "," + e + ");g4<if0(" + any() + "," + any() + ");");
            } else {
                text.append("g" + i + "=" + gate() + ";");
            }
            told.add("g" + i);
        }
        read(at, text.toString());
        for (int i = 0; i < 2; i++) {
            Check.due(at + ": legal()", x.legal(), m.legal());
            int n = below(m.size());
            Check.due(at + ": sharp(" + n + ")", x.sharp(n), m.sharp(n));
            int last = m.size() - 1;
            Check.due(at + ": sharp(" + last + ")", x.sharp(last), m.sharp(last));
            int input = below(free);
            Check.due(at + ": set(" + input + ", 1)", x.set(input, 1), m.set(input, 1));
        }
    }

    /** One object reads one text behind another, with FAULTS or without; what lies on the TAPE is read too. */
    private void playOn(String at) {
        for (int i = 0; i < 12; i++) {
            for (int texts = below(4) == 0 ? 2 : 1; texts > 0; texts--) {
                feedAndEnd(at + ", text " + i, spoilt(2));
            }
            Check.due(at + ", text " + i + ": read()", x.read(), m.read());
            for (int call = 0; call < 12; call++) {
                step(at + ", text " + i + ", call " + call);
            }
            for (int what = -1; what < 3; what++) {
                Check.due(at + ", text " + i + ": fault(" + what + ")", x.fault(what), m.fault(what));
            }
            for (int n = -1; n <= m.size(); n++) {
                int what = below(6) - 1;
                Check.due(at + ", text " + i + ": node(" + n + ", " + what + ")", x.node(n, what), m.node(n, what));
                Check.due(at + ", text " + i + ": named", Check.node(x, name(n + 1)), m.named(name(n + 1)));
            }
        }
    }

    /** The text behind what the TAPE has; at times the end is left off, or the TAPE is emptied first. */
    private void feedAndEnd(String at, String text) {
        if (below(2) == 0) {
            Check.due(at + ": end(0)", x.end(0), m.end(0));
        }
        int length = 0;
        for (int i = 0; i < text.length(); i += 20) {
            int[] n = new int[5];
            for (int j = 0; j < 20; j++) {
                n[j / 4] = n[j / 4] << 8 | (i + j < text.length() ? text.charAt(i + j) : ' ');
            }
            length = m.feed(n);
            Check.due(at + ": feed", x.feed(n[0], n[1], n[2], n[3], n[4]), length);
        }
        int cut = length - below(3) * below(20);
        if (below(3) > 0) {
            Check.due(at + ": end(" + cut + ")", x.end(cut), m.end(cut));
        }
    }

    private void step(String at) {
        int n = below(m.size() + 2) - 1;
        int v = below(12) == 0 ? below(7) - 2 : below(3) == 0 ? below(4) : below(2);
        switch (below(9)) {
            case 0:
                Check.due(at + ": set(" + n + ", " + v + ")", x.set(n, v), m.set(n, v));
                break;
            case 1:
                for (int i = 0; i < m.size(); i++) {
                    int w = below(5) == 0 ? 2 : below(2);
                    Check.due(at + ": set(" + i + ", " + w + ")", x.set(i, w), m.set(i, w));
                    Check.due(at + ": load(" + i + ", " + w + ")", x.load(i, w), m.load(i, w));
                }
                break;
            case 2:
                Check.due(at + ": tick()", x.tick(), m.tick());
                break;
            case 3:
                worlds(at);
                break;
            case 4:
                Check.due(at + ": flicker(" + n + ", 0)", x.flicker(n, 0), m.flicker(n, 0));
                Check.due(at + ": flicker(" + n + ", 1)", x.flicker(n, 1), m.flicker(n, 1));
                break;
            case 5:
                if (below(3) == 0) {
                    Check.due(at + ": wheel()", x.wheel(), m.wheel());
                }
                break;
            default:
                for (int i = below(4); i > 0; i--) {
                    int input = below(m.size() + 1) - 1;
                    Check.due(at + ": put(" + input + ", " + v + ")", x.put(input, v), m.put(input, v));
                }
                int time = below(2) == 0 ? below(3) : below(40) - 1;
                Check.due(at + ": run(" + time + ")", x.run(time), m.run(time));
                break;
        }
        look(at);
    }

    private void worlds(String at) {
        Check.due(at + ": worlds()", x.worlds(), m.worlds());
        if (m.worlds() > 32) {
            return;
        }
        Check.due(at + ": legal()", x.legal(), m.legal());
        Check.due(at + ": gainsaid()", x.gainsaid(), m.gainsaid());
        for (int i = -1; i <= m.size(); i++) {
            Check.due(at + ": sharp(" + i + ")", x.sharp(i), m.sharp(i));
        }
    }

    private void look(String at) {
        for (int i = -1; i < 7; i++) {
            Check.due(at + ": about(" + i + ")", x.about(i), m.about(i));
        }
        for (int i = 0; i < 4; i++) {
            int n = below(m.size() + 2) - 1;
            int k = below(5) == 0 ? below(24) - 1 : below(4);
            Check.due(at + ": value(" + n + ")", x.value(n), m.value(n));
            Check.due(at + ": on(" + n + ")", x.on(n), m.on(n));
            Check.due(at + ": wave(" + n + ", " + k + ")", x.wave(n, k), m.wave(n, k));
        }
    }
}
