import java.util.ArrayList;
import java.util.HashMap;
import java.util.HashSet;
import java.util.List;
import java.util.Map;
import java.util.Set;
import java.util.TreeMap;

/** The document told a second time, as plainly as can be and without a thought of speed: what ModelTest compares with. */
final class Model {
    static final Set<String> GATES = Set.of("and", "or", "nand", "nor", "xor", "xnor", "not", "buf", "mux");

    static final class Fault extends RuntimeException {
        private static final long serialVersionUID = 1L;
        final int number;
        final int place;

        Fault(int number, int place) {
            this.number = number;
            this.place = place;
        }
    }

    record Token(char sort, String text, int place) {
    }

    record Use(String name, int place) {
    }

    record Driver(boolean low, Use d, Use e) {
    }

    static final class Node {
        String name;
        int place;
        /** i, b, g or r. */
        char kind;
        String gate = "";
        int delay;
        List<Use> parts = new ArrayList<>();
        List<Driver> drivers = new ArrayList<>();
    }

    /** Reads a text; it throws the FAULT. */
    static final class Parser {
        final String text;
        int at = 0;
        Token token;
        final List<Node> nodes = new ArrayList<>();
        final Map<String, Integer> numbers = new HashMap<>();
        final List<Use> heads = new ArrayList<>();
        final List<Driver> drivers = new ArrayList<>();
        final TreeMap<Integer, Use> uses = new TreeMap<>();

        Parser(String text) {
            this.text = text;
        }

        void parse() {
            next();
            while (token.sort != '$') {
                line();
            }
            Set<Integer> headPlaces = new HashSet<>();
            heads.forEach(h -> headPlaces.add(h.place));
            for (Use u : uses.values()) {
                Integer n = numbers.get(u.name);
                if (n == null || headPlaces.contains(u.place) && nodes.get(n).kind != 'b') {
                    throw new Fault(4, u.place);
                }
            }
            for (int i = 0; i < heads.size(); i++) {
                nodes.get(numbers.get(heads.get(i).name)).drivers.add(drivers.get(i));
            }
            for (int i = 0; i < nodes.size(); i++) {
                Set<Integer> seen = new HashSet<>();
                reach(i, seen);
                if (seen.contains(i)) {
                    throw new Fault(5, nodes.get(i).place);
                }
            }
        }

        List<Integer> hangsOn(int n) {
            List<Integer> on = new ArrayList<>();
            Node node = nodes.get(n);
            if (node.kind == 'g') {
                node.parts.forEach(p -> on.add(numbers.get(p.name)));
            }
            for (Driver d : node.drivers) {
                on.add(numbers.get(d.d.name));
                on.add(numbers.get(d.e.name));
            }
            return on;
        }

        void reach(int n, Set<Integer> seen) {
            for (int on : hangsOn(n)) {
                if (seen.add(on)) {
                    reach(on, seen);
                }
            }
        }

        void next() {
            while (at < text.length() && " \n".indexOf(text.charAt(at)) >= 0) {
                at++;
            }
            int start = at;
            String rest = text.substring(at);
            if (rest.isEmpty()) {
                token = new Token('$', "", start);
                return;
            }
            String word = rest.replaceFirst("(?s)^([a-z][a-z0-9]*).*$", "$1");
            if (rest.matches("(?s)[a-z].*")) {
                token = new Token(word.length() > 8 ? '!' : 'w', word, start);
                at += word.length();
            } else if (rest.matches("(?s)[1-9]([^a-z0-9].*)?")) {
                token = new Token('d', rest.substring(0, 1), start);
                at++;
            } else if (",;=()<".indexOf(rest.charAt(0)) >= 0) {
                token = new Token(rest.charAt(0), "", start);
                at++;
            } else {
                token = new Token('!', "", start);
            }
        }

        Fault wrong() {
            return new Fault(token.sort == '!' ? 1 : 2, token.place);
        }

        void sign(char sign) {
            if (token.sort != sign) {
                throw wrong();
            }
            next();
        }

        boolean isName() {
            return token.sort == 'w' && !GATES.contains(token.text)
                && !Set.of("in", "bus", "reg", "if1", "if0").contains(token.text);
        }

        Use name() {
            if (!isName()) {
                throw wrong();
            }
            return new Use(token.text, token.place);
        }

        Use use() {
            Use u = name();
            uses.put(u.place, u);
            next();
            return u;
        }

        Node tell(Use u, char kind) {
            if (nodes.size() == 60) {
                throw new Fault(2, u.place);
            }
            if (numbers.containsKey(u.name)) {
                throw new Fault(3, u.place);
            }
            Node n = new Node();
            n.name = u.name;
            n.place = u.place;
            n.kind = kind;
            numbers.put(u.name, nodes.size());
            nodes.add(n);
            return n;
        }

        void line() {
            if (token.sort == 'w' && (token.text.equals("in") || token.text.equals("bus"))) {
                char kind = token.text.charAt(0);
                do {
                    next();
                    tell(name(), kind);
                    next();
                } while (token.sort == ',');
            } else if (token.sort == 'w' && token.text.equals("reg")) {
                next();
                Node n = tell(name(), 'r');
                next();
                sign('(');
                n.parts.add(use());
                if (token.sort == ',') {
                    next();
                    n.parts.add(use());
                }
                sign(')');
            } else {
                Use head = name();
                next();
                if (token.sort == '=') {
                    gate(tell(head, 'g'));
                } else if (token.sort == '<') {
                    driver(head);
                } else {
                    throw wrong();
                }
            }
            sign(';');
        }

        void gate(Node n) {
            next();
            if (token.sort != 'w' || !GATES.contains(token.text)) {
                throw wrong();
            }
            n.gate = token.text;
            n.delay = 1;
            int most = n.gate.equals("mux") ? 3 : n.gate.equals("not") || n.gate.equals("buf") ? 1 : 6;
            int least = most == 6 ? 2 : most;
            next();
            sign('(');
            n.parts.add(use());
            while (token.sort == ',') {
                next();
                if (n.parts.size() == most) {
                    throw wrong();
                }
                n.parts.add(use());
            }
            if (token.sort == ')' && n.parts.size() < least) {
                throw wrong();
            }
            sign(')');
            if (token.sort == 'd') {
                n.delay = Integer.parseInt(token.text);
                next();
            }
        }

        void driver(Use head) {
            if (heads.stream().filter(h -> h.name.equals(head.name)).count() == 6) {
                throw new Fault(2, head.place);
            }
            next();
            if (token.sort != 'w' || !token.text.equals("if1") && !token.text.equals("if0")) {
                throw wrong();
            }
            boolean low = token.text.equals("if0");
            uses.put(head.place, head);
            heads.add(head);
            next();
            sign('(');
            Use d = use();
            sign(',');
            Use e = use();
            sign(')');
            drivers.add(new Driver(low, d, e));
        }
    }

    private final StringBuilder tape = new StringBuilder();
    private Parser net = new Parser("");
    private Fault latest = new Fault(0, -1);
    /** Of INPUTS and REGISTERS. */
    private final Map<Integer, Integer> sources = new HashMap<>();

    int size() {
        return net.nodes.size();
    }

    void tape(String text) {
        tape.setLength(0);
        tape.append(text);
    }

    int feed(int... numbers) {
        if (tape.length() + 20 > 2000) {
            return -1;
        }
        for (int n : numbers) {
            for (int i = 3; i >= 0; i--) {
                tape.append((char) (n >>> 8 * i & 255));
            }
        }
        return tape.length();
    }

    int end(int n) {
        if (n < 0 || n > tape.length()) {
            return -1;
        }
        tape.setLength(n);
        return n;
    }

    int read() {
        Parser p = new Parser(tape.toString());
        tape.setLength(0);
        try {
            p.parse();
        } catch (Fault f) {
            latest = f;
            return -1;
        }
        latest = new Fault(0, -1);
        net = p;
        wheel = null;
        sources.clear();
        for (int i = 0; i < size(); i++) {
            if ("ir".indexOf(kind(i)) >= 0) {
                sources.put(i, 2);
            }
        }
        return size();
    }

    int fault(int what) {
        return what == 0 ? latest.number : what == 1 ? latest.place : -1;
    }

    int named(String name) {
        return net.numbers.getOrDefault(name, -1);
    }

    private char kind(int n) {
        return n < 0 || n >= size() ? '?' : net.nodes.get(n).kind;
    }

    int node(int n, int what) {
        if (kind(n) == '?') {
            return -1;
        }
        Node node = net.nodes.get(n);
        switch (what) {
            case 0:
                return "ibgr".indexOf(node.kind);
            case 1:
                return node.kind == 'b' ? node.drivers.size() : node.parts.size();
            case 2:
                return node.delay;
            case 3:
                return level(n, new HashMap<>());
            default:
                return -1;
        }
    }

    private int level(int n, Map<Integer, Integer> known) {
        if (!known.containsKey(n)) {
            int level = 0;
            for (int on : net.hangsOn(n)) {
                level = Math.max(level, 1 + level(on, known));
            }
            known.put(n, level);
        }
        return known.get(n);
    }

    boolean set(int n, int v) {
        if (kind(n) != 'i' || v < 0 || v > 3) {
            return false;
        }
        sources.put(n, v);
        return true;
    }

    boolean load(int n, int v) {
        if (kind(n) != 'r' || v < 0 || v > 2) {
            return false;
        }
        sources.put(n, v);
        return true;
    }

    private static int not(int v) {
        return v == 0 ? 1 : v == 1 ? 0 : 2;
    }

    /** A GATE's value of those that it takes in, OPEN being UNKNOWN already. */
    private static int gate(String gate, List<Integer> in) {
        switch (gate) {
            case "and":
                return in.contains(0) ? 0 : in.contains(2) ? 2 : 1;
            case "or":
                return in.contains(1) ? 1 : in.contains(2) ? 2 : 0;
            case "xor":
                return in.contains(2) ? 2 : in.stream().mapToInt(v -> v).sum() % 2;
            case "nand":
                return not(gate("and", in));
            case "nor":
                return not(gate("or", in));
            case "xnor":
                return not(gate("xor", in));
            case "not":
                return not(in.get(0));
            case "buf":
                return in.get(0);
            default:
                int a = in.get(1);
                int b = in.get(2);
                return in.get(0) == 0 ? a : in.get(0) == 1 ? b : a == b ? a : 2;
        }
    }

    private static int unopened(int v) {
        return v == 3 ? 2 : v;
    }

    /** The value of one NODE that is no source, of a table that has those on which it hangs. */
    private int follows(int n, Map<Integer, Integer> table) {
        Node node = net.nodes.get(n);
        if (node.kind == 'g') {
            List<Integer> in = new ArrayList<>();
            node.parts.forEach(p -> in.add(unopened(table.get(net.numbers.get(p.name)))));
            return gate(node.gate, in);
        }
        Set<Integer> given = new HashSet<>();
        for (Driver d : node.drivers) {
            int data = unopened(table.get(net.numbers.get(d.d.name)));
            int enable = table.get(net.numbers.get(d.e.name));
            if (enable > 1) {
                given.add(2);
            } else if (enable == (d.low ? 0 : 1)) {
                given.add(data);
            }
        }
        return given.isEmpty() ? 3 : given.size() == 1 ? given.iterator().next() : 2;
    }

    private void fill(int n, Map<Integer, Integer> table) {
        if (!table.containsKey(n)) {
            net.hangsOn(n).forEach(on -> fill(on, table));
            table.put(n, follows(n, table));
        }
    }

    private Map<Integer, Integer> all(Map<Integer, Integer> from) {
        Map<Integer, Integer> table = new HashMap<>(from);
        for (int i = 0; i < size(); i++) {
            fill(i, table);
        }
        return table;
    }

    int value(int n) {
        return kind(n) == '?' ? -1 : all(sources).get(n);
    }

    int tick() {
        Map<Integer, Integer> before = all(sources);
        int changed = 0;
        for (int i = 0; i < size(); i++) {
            if (kind(i) == 'r') {
                List<Use> parts = net.nodes.get(i).parts;
                int d = unopened(before.get(net.numbers.get(parts.get(0).name)));
                int e = parts.size() == 1 ? 1 : before.get(net.numbers.get(parts.get(1).name));
                int old = before.get(i);
                int now = e == 1 ? d : e == 0 ? old : d == old && d < 2 ? old : 2;
                sources.put(i, now);
                changed += now == old ? 0 : 1;
            }
        }
        return changed;
    }

    private List<Integer> free() {
        List<Integer> free = new ArrayList<>();
        sources.forEach((n, v) -> {
            if (v > 1) {
                free.add(n);
            }
        });
        return free;
    }

    int worlds() {
        return free().size() > 12 ? -2 : 1 << free().size();
    }

    /** The tables of all LEGAL WORLDS; null if they are not gone through. */
    private List<Map<Integer, Integer>> legalWorlds() {
        List<Integer> free = free();
        if (free.size() > 12) {
            return null;
        }
        List<Map<Integer, Integer>> legal = new ArrayList<>();
        for (int w = 0; w < 1 << free.size(); w++) {
            Map<Integer, Integer> from = new HashMap<>(sources);
            for (int i = 0; i < free.size(); i++) {
                from.put(free.get(i), w >> i & 1);
            }
            Map<Integer, Integer> table = all(from);
            boolean isLegal = true;
            for (Node node : net.nodes) {
                int on = 0;
                for (Driver d : node.drivers) {
                    on += table.get(net.numbers.get(d.e.name)) == (d.low ? 0 : 1) ? 1 : 0;
                }
                isLegal &= node.kind != 'b' || on == 1;
            }
            if (isLegal) {
                legal.add(table);
            }
        }
        return legal;
    }

    int legal() {
        List<Map<Integer, Integer>> legal = legalWorlds();
        return legal == null ? -2 : legal.size();
    }

    int sharp(int n) {
        List<Map<Integer, Integer>> legal = legalWorlds();
        if (legal == null) {
            return -2;
        }
        if (kind(n) == '?') {
            return -1;
        }
        Set<Integer> seen = new HashSet<>();
        legal.forEach(table -> seen.add(table.get(n)));
        return seen.isEmpty() ? 3 : seen.size() == 2 ? 2 : seen.iterator().next();
    }

    int gainsaid() {
        List<Map<Integer, Integer>> legal = legalWorlds();
        if (legal == null) {
            return -2;
        }
        Map<Integer, Integer> known = all(sources);
        for (int i = 0; i < size(); i++) {
            for (Map<Integer, Integer> table : legal) {
                if (known.get(i) < 2 && !known.get(i).equals(table.get(i))) {
                    return i;
                }
            }
        }
        return -1;
    }

    int flicker(int input, int k) {
        if (kind(input) != 'i' || sources.get(input) > 1) {
            return -1;
        }
        List<Map<Integer, Integer>> tables = new ArrayList<>();
        for (int v = 0; v < 3; v++) {
            Map<Integer, Integer> from = new HashMap<>(sources);
            from.put(input, v);
            tables.add(all(from));
        }
        List<Integer> found = new ArrayList<>();
        for (int i = 0; i < size(); i++) {
            int zero = tables.get(0).get(i);
            if (zero < 2 && tables.get(1).get(i) == zero && tables.get(2).get(i) == 2) {
                found.add(i);
            }
        }
        return k < 0 || k >= found.size() ? -1 : found.get(k);
    }

    private Map<Integer, Integer> wheel;
    private Map<Integer, Integer> toBe;
    private final TreeMap<Integer, TreeMap<Integer, Integer>> coming = new TreeMap<>();
    private final Map<Integer, List<Integer>> waves = new HashMap<>();
    private final Set<Integer> changed = new HashSet<>();
    private int time;

    boolean wheel() {
        wheel = all(sources);
        toBe = all(sources);
        coming.clear();
        waves.clear();
        changed.clear();
        time = 0;
        return true;
    }

    private int change(int n, int v) {
        if (wheel.get(n) == v) {
            return 0;
        }
        wheel.put(n, v);
        changed.add(n);
        waves.computeIfAbsent(n, x -> new ArrayList<>()).add(4 * time + v);
        return 1;
    }

    boolean put(int n, int v) {
        if (wheel == null || kind(n) != 'i' || v < 0 || v > 3) {
            return false;
        }
        change(n, v);
        return true;
    }

    int run(int n) {
        if (wheel == null || n < 0 || n > 1000) {
            return -1;
        }
        int changes = look();
        for (int i = 0; i < n; i++) {
            time++;
            if (coming.containsKey(time)) {
                for (Map.Entry<Integer, Integer> e : coming.remove(time).entrySet()) {
                    changes += change(e.getKey(), e.getValue());
                }
            }
            changes += look();
        }
        return changes;
    }

    private int look() {
        int changes = 0;
        Map<Integer, Integer> now = new HashMap<>();
        for (int i = 0; i < size(); i++) {
            if (kind(i) != 'b') {
                now.put(i, wheel.get(i));
            }
        }
        Map<Integer, Integer> settled = all(now);
        for (int i = 0; i < size(); i++) {
            changes += kind(i) == 'b' ? change(i, settled.get(i)) : 0;
        }
        for (int n : new ArrayList<>(changed)) {
            for (int g = 0; g < size(); g++) {
                if (kind(g) == 'g' && net.hangsOn(g).contains(n) && follows(g, wheel) != toBe.get(g)) {
                    toBe.put(g, follows(g, wheel));
                    coming.computeIfAbsent(time + net.nodes.get(g).delay, t -> new TreeMap<>()).put(g, toBe.get(g));
                }
            }
        }
        changed.clear();
        return changes;
    }

    int on(int n) {
        return wheel == null || kind(n) == '?' ? -1 : wheel.get(n);
    }

    int wave(int n, int k) {
        List<Integer> wave = wheel == null ? List.of() : waves.getOrDefault(n, List.of());
        return k < 0 || k >= 20 || k >= wave.size() ? -1 : wave.get(k);
    }

    int about(int what) {
        int toCome = coming.values().stream().mapToInt(Map::size).sum();
        switch (what) {
            case 0:
                return size();
            case 1:
                return (int) net.nodes.stream().filter(n -> n.kind == 'r').count();
            case 2:
                return wheel == null ? -1 : time;
            case 3:
                return wheel == null ? -1 : toCome == 0 && changed.isEmpty() ? 1 : 0;
            case 4:
                return wheel == null ? -1 : toCome;
            case 5:
                return free().size();
            default:
                return -1;
        }
    }
}
