/** A bench for circuits of gates, buses and registers in four values, with worlds and a wheel of time. */
public final class GateWheel {
    public static final int NONE = -1;

    private static final int NOT_GONE_THROUGH = -2;

    private static final int MAX_TEXT = 2000;
    private static final int MAX_NODES = 60;
    private static final int MAX_DRIVERS = 6;
    private static final int MAX_PARTS = 2 * MAX_DRIVERS;
    private static final int MAX_FREE = 12;
    private static final int MAX_RUN = 1000;

    private static final int INPUT = 0;
    private static final int BUS = 1;
    private static final int GATE = 2;
    private static final int REGISTER = 3;

    private static final int UNKNOWN = 2;
    private static final int OPEN = 3;

    private final byte[] tape;
    private int tapeLength;
    private final Reader reader;
    private Circuit circuit;
    private Circuit spare;
    private final int[] values;
    private final int[] rowOne;
    private final int[] rowTwo;
    private final Worlds allWorlds;
    private boolean worldsAreFresh;
    private final Wheel spinning;
    private boolean hasWheel;

    public GateWheel() {
        tape = new byte[MAX_TEXT];
        reader = new Reader();
        circuit = new Circuit();
        spare = new Circuit();
        values = new int[MAX_NODES];
        rowOne = new int[MAX_NODES];
        rowTwo = new int[MAX_NODES];
        allWorlds = new Worlds();
        spinning = new Wheel();
    }

    public int feed(int a, int b, int c, int d, int e) {
        if (tapeLength + 20 > MAX_TEXT) {
            return NONE;
        }
        addToTape(a);
        addToTape(b);
        addToTape(c);
        addToTape(d);
        addToTape(e);
        return tapeLength;
    }

    public int end(int n) {
        if (n < 0 || n > tapeLength) {
            return NONE;
        }
        tapeLength = n;
        return n;
    }

    public int read() {
        int length = tapeLength;
        tapeLength = 0;
        // The spare is written, so that the circuit that stands is untouched by a text with a FAULT.
        if (!reader.readInto(spare, tape, length)) {
            return NONE;
        }
        Circuit old = circuit;
        circuit = spare;
        spare = old;
        for (int i = 0; i < circuit.count; i++) {
            values[i] = UNKNOWN;
        }
        hasWheel = false;
        settleValues();
        return circuit.count;
    }

    public int fault(int what) {
        switch (what) {
            case 0:
                return reader.fault;
            case 1:
                return reader.faultPlace;
            default:
                return NONE;
        }
    }

    public int named(long name) {
        long packed = 0;
        for (int shift = 56; shift >= 0; shift -= 8) {
            long one = (name >>> shift) & 255;
            if (one != 0) {
                packed = (packed << 8) | one;
            }
        }
        return circuit.find(packed);
    }

    public int node(int node, int what) {
        if (!circuit.has(node)) {
            return NONE;
        }
        switch (what) {
            case 0:
                return circuit.kinds[node];
            case 1:
                return circuit.size(node);
            case 2:
                return circuit.delays[node];
            case 3:
                return circuit.levels[node];
            default:
                return NONE;
        }
    }

    public boolean set(int node, int v) {
        if (!circuit.isKind(node, INPUT) || v < 0 || v > OPEN) {
            return false;
        }
        values[node] = v;
        settleValues();
        return true;
    }

    public boolean load(int node, int v) {
        if (!circuit.isKind(node, REGISTER) || v < 0 || v > UNKNOWN) {
            return false;
        }
        values[node] = v;
        settleValues();
        return true;
    }

    public int value(int node) {
        return circuit.has(node) ? values[node] : NONE;
    }

    public int tick() {
        // All REGISTERS go by the values ahead of the TICK, so none may be written before all are told.
        for (int i = 0; i < circuit.count; i++) {
            rowOne[i] = circuit.kinds[i] == REGISTER ? Logic.afterTick(circuit, i, values) : values[i];
        }
        int changed = 0;
        for (int i = 0; i < circuit.count; i++) {
            if (rowOne[i] != values[i]) {
                changed++;
                values[i] = rowOne[i];
            }
        }
        settleValues();
        return changed;
    }

    public int worlds() {
        int free = countFree();
        return free > MAX_FREE ? NOT_GONE_THROUGH : 1 << free;
    }

    public int legal() {
        return goThroughWorlds() ? allWorlds.legalCount : NOT_GONE_THROUGH;
    }

    public int sharp(int node) {
        if (!goThroughWorlds()) {
            return NOT_GONE_THROUGH;
        }
        return circuit.has(node) ? allWorlds.sharpValue(node) : NONE;
    }

    public int gainsaid() {
        if (!goThroughWorlds()) {
            return NOT_GONE_THROUGH;
        }
        for (int i = 0; i < circuit.count; i++) {
            if (values[i] < UNKNOWN && allWorlds.isEver(i, 1 - values[i])) {
                return i;
            }
        }
        return NONE;
    }

    public int flicker(int input, int k) {
        if (!circuit.isKind(input, INPUT) || values[input] >= UNKNOWN || k < 0) {
            return NONE;
        }
        settleWith(rowOne, input, 1 - values[input]);
        settleWith(rowTwo, input, UNKNOWN);
        int left = k;
        for (int i = 0; i < circuit.count; i++) {
            if (values[i] < UNKNOWN && rowOne[i] == values[i] && rowTwo[i] == UNKNOWN) {
                if (left == 0) {
                    return i;
                }
                left--;
            }
        }
        return NONE;
    }

    public boolean wheel() {
        spinning.begin(circuit, values);
        hasWheel = true;
        return true;
    }

    public boolean put(int node, int v) {
        if (!hasWheel || !circuit.isKind(node, INPUT) || v < 0 || v > OPEN) {
            return false;
        }
        spinning.change(node, v);
        return true;
    }

    public int run(int n) {
        if (!hasWheel || n < 0 || n > MAX_RUN) {
            return NONE;
        }
        return spinning.turn(circuit, n);
    }

    public int on(int node) {
        return hasWheel && circuit.has(node) ? spinning.values[node] : NONE;
    }

    public int wave(int node, int k) {
        return hasWheel && circuit.has(node) ? spinning.changeOf(node, k) : NONE;
    }

    public int about(int what) {
        switch (what) {
            case 0:
                return circuit.count;
            case 1:
                return circuit.registers;
            case 2:
                return hasWheel ? spinning.time : NONE;
            case 3:
                return hasWheel ? spinning.quiet() : NONE;
            case 4:
                return hasWheel ? spinning.toCome : NONE;
            case 5:
                return countFree();
            default:
                return NONE;
        }
    }

    private void addToTape(int number) {
        for (int shift = 24; shift >= 0 && tapeLength < MAX_TEXT; shift -= 8) {
            tape[tapeLength] = (byte) (number >>> shift);
            tapeLength++;
        }
    }

    private void settleValues() {
        Logic.settle(circuit, values);
        worldsAreFresh = false;
    }

    private void settleWith(int[] row, int input, int v) {
        System.arraycopy(values, 0, row, 0, MAX_NODES);
        row[input] = v;
        Logic.settle(circuit, row);
    }

    private int countFree() {
        int free = 0;
        for (int i = 0; i < circuit.count; i++) {
            if (circuit.isSource(i) && values[i] >= UNKNOWN) {
                free++;
            }
        }
        return free;
    }

    /** False if there are too many WORLDS to go through. */
    private boolean goThroughWorlds() {
        int free = countFree();
        if (free > MAX_FREE) {
            return false;
        }
        if (!worldsAreFresh) {
            allWorlds.goThrough(circuit, values, free);
            worldsAreFresh = true;
        }
        return true;
    }

    /** The NODES of a CIRCUIT, by number. */
    private static final class Circuit {
        int count;
        int registers;
        final long[] names = new long[MAX_NODES];
        final int[] places = new int[MAX_NODES];
        final int[] kinds = new int[MAX_NODES];
        final int[] gates = new int[MAX_NODES];
        final int[] delays = new int[MAX_NODES];
        /** A row of MAX_PARTS for each NODE: the NODES in its ( ); of a BUS d and e of each DRIVER in turn. */
        final int[] parts = new int[MAX_NODES * MAX_PARTS];
        final int[] partCounts = new int[MAX_NODES];
        /** Bit j: the BUS's DRIVER j is an if0. */
        final int[] lows = new int[MAX_NODES];
        /** Bit j: it hangs on NODE j directly. */
        final long[] hangs = new long[MAX_NODES];
        final int[] levels = new int[MAX_NODES];
        /** All NODES, each behind those that it hangs on. */
        final int[] order = new int[MAX_NODES];

        void clear() {
            count = 0;
            registers = 0;
        }

        boolean has(int node) {
            return node >= 0 && node < count;
        }

        boolean isKind(int node, int kind) {
            return has(node) && kinds[node] == kind;
        }

        boolean isSource(int node) {
            return isKind(node, INPUT) || isKind(node, REGISTER);
        }

        int find(long name) {
            for (int i = 0; i < count; i++) {
                if (names[i] == name) {
                    return i;
                }
            }
            return NONE;
        }

        void add(long name, int place, int kind) {
            if (count >= MAX_NODES) {
                return;
            }
            names[count] = name;
            places[count] = place;
            kinds[count] = kind;
            gates[count] = 0;
            delays[count] = kind == GATE ? 1 : 0;
            partCounts[count] = 0;
            lows[count] = 0;
            hangs[count] = 0;
            levels[count] = 0;
            if (kind == REGISTER) {
                registers++;
            }
            count++;
        }

        void addPart(int node, int part) {
            if (!has(node) || !has(part) || partCounts[node] >= MAX_PARTS) {
                return;
            }
            parts[node * MAX_PARTS + partCounts[node]] = part;
            partCounts[node]++;
            if (kinds[node] != REGISTER) {
                hangs[node] |= 1L << part;
            }
        }

        /** Tells the sort of the DRIVER whose d and e are added next. */
        void beginDriver(int bus, boolean low) {
            if (has(bus) && low) {
                lows[bus] |= 1 << size(bus);
            }
        }

        int part(int node, int i) {
            return parts[node * MAX_PARTS + i];
        }

        boolean isLow(int bus, int driver) {
            return ((lows[bus] >> driver) & 1) == 1;
        }

        int size(int node) {
            return kinds[node] == BUS ? partCounts[node] / 2 : partCounts[node];
        }

        boolean dependsOn(int node, long nodes) {
            return (hangs[node] & nodes) != 0;
        }

        /** Sets order and levels; no NODE hangs on itself. */
        void arrange() {
            long placed = 0;
            int n = 0;
            for (int round = 0; round < count && n < count; round++) {
                for (int i = 0; i < count && n < count; i++) {
                    boolean isPlaced = ((placed >>> i) & 1) == 1;
                    if (!isPlaced && !dependsOn(i, ~placed)) {
                        order[n] = i;
                        n++;
                        placed |= 1L << i;
                        levels[i] = levelAbove(hangs[i]);
                    }
                }
            }
        }

        private int levelAbove(long nodes) {
            int level = 0;
            for (int i = 0; i < count; i++) {
                if (((nodes >>> i) & 1) == 1) {
                    level = Math.max(level, levels[i] + 1);
                }
            }
            return level;
        }
    }

    /** Takes a text apart into TOKENS. */
    private static final class Lexer {
        /** What is no TOKEN, the text's end, and the kinds of TOKENS; a sign's kind is its byte. */
        static final int BAD = 0;
        static final int END = 1;
        static final int WORD = 2;
        static final int DIGIT = 3;

        private static final int MAX_WORD = 8;

        private byte[] text;
        private int length;
        private int next;
        int kind;
        int start;
        /** The word's bytes, the first highest. */
        long word;
        int digit;

        void begin(byte[] newText, int newLength) {
            text = newText;
            length = Math.min(newLength, newText.length);
            next = 0;
        }

        void advance() {
            while (next < length && isBlank(text[next])) {
                next++;
            }
            start = next;
            if (next >= length) {
                kind = END;
                return;
            }
            int c = text[next];
            if (isLetter(c)) {
                takeWord();
            } else if (isDigit(c)) {
                takeDigit();
            } else {
                kind = isSign(c) ? c : BAD;
                next++;
            }
        }

        private void takeWord() {
            word = 0;
            while (next < length && isLetterOrDigit(text[next])) {
                word = (word << 8) | text[next];
                next++;
            }
            kind = next - start > MAX_WORD ? BAD : WORD;
        }

        private void takeDigit() {
            digit = text[next] - '0';
            next++;
            boolean isAlone = next >= length || !isLetterOrDigit(text[next]);
            kind = isAlone && digit > 0 ? DIGIT : BAD;
        }

        private static boolean isBlank(int c) {
            return c == 32 || c == 10;
        }

        private static boolean isLetter(int c) {
            return c >= 'a' && c <= 'z';
        }

        private static boolean isDigit(int c) {
            return c >= '0' && c <= '9';
        }

        private static boolean isLetterOrDigit(int c) {
            return isLetter(c) || isDigit(c);
        }

        private static boolean isSign(int c) {
            return c == ',' || c == ';' || c == '=' || c == '(' || c == ')' || c == '<';
        }
    }

    /**
     * Reads a text as a CIRCUIT, or finds its FAULT. Nothing in a CIRCUIT nests, so one state, moved on by each
     * TOKEN, is enough. Its steps answer false once there is a FAULT.
     */
    private static final class Reader {
        private static final int NO_TOKEN = 1;
        private static final int CANNOT_STAND = 2;
        private static final int TOLD_ALREADY = 3;
        private static final int TOLD_NOWHERE = 4;
        private static final int ON_ITSELF = 5;

        /** Words as their bytes in a long, the first highest. */
        private static final long WORD_IN = 0x696eL;
        private static final long WORD_BUS = 0x627573L;
        private static final long WORD_REG = 0x726567L;
        private static final long WORD_IF1 = 0x696631L;
        private static final long WORD_IF0 = 0x696630L;
        /** and nand or nor xor xnor buf not mux: the places are the numbers of Logic. */
        private static final long[] GATE_WORDS = {
            0x616e64L, 0x6e616e64L, 0x6f72L, 0x6e6f72L, 0x786f72L, 0x786e6f72L, 0x627566L, 0x6e6f74L, 0x6d7578L
        };
        private static final int[] LEAST_PARTS = {2, 2, 2, 2, 2, 2, 1, 1, 3};
        private static final int[] MOST_PARTS = {6, 6, 6, 6, 6, 6, 1, 1, 3};

        /** What is due next. */
        private static final int LINE = 0;
        private static final int TOLD_NAME = 1;
        private static final int COMMA_OR_END = 2;
        private static final int TELL_OR_DRIVE = 3;
        private static final int GATE_WORD = 4;
        private static final int DRIVER_WORD = 5;
        private static final int PAREN = 6;
        private static final int PART = 7;
        private static final int COMMA_OR_PAREN = 8;
        private static final int DELAY_OR_END = 9;
        private static final int LINE_END = 10;

        /** What a line is about, beside the kinds of NODES that it may tell. */
        private static final int DRIVER = 4;

        /** With its share of the line's signs and words each use of a NAME takes three bytes at least. */
        private static final int MAX_USES = MAX_TEXT / 3 + 1;
        /** Roles of uses that are not in the ( ) of a GATE or REGISTER. */
        private static final int HEAD_IF1 = -1;
        private static final int HEAD_IF0 = -2;
        private static final int OF_DRIVER = -3;

        int fault;
        int faultPlace = NONE;
        private final Lexer lexer = new Lexer();
        private Circuit circuit;
        private int state;
        private int sort;
        private long lineName;
        private int linePlace;
        private int role;
        private int taken;
        private int least;
        private int most;
        /** NAMES that were used, as they stand in the text; they may be told later on. */
        private final long[] useNames = new long[MAX_USES];
        private final int[] usePlaces = new int[MAX_USES];
        /** The NODE in whose ( ) it is, or one of the roles above. */
        private final int[] useRoles = new int[MAX_USES];
        private int uses;
        private final long[] reach = new long[MAX_NODES];

        boolean readInto(Circuit target, byte[] text, int length) {
            circuit = target;
            circuit.clear();
            fault = 0;
            faultPlace = NONE;
            uses = 0;
            lexer.begin(text, length);
            if (!takeTokens() || !linkUses() || !checkLoops()) {
                return false;
            }
            circuit.arrange();
            return true;
        }

        private boolean takeTokens() {
            state = LINE;
            lexer.advance();
            for (int i = 0; i < MAX_TEXT && lexer.kind != Lexer.END; i++) {
                if (!step()) {
                    return false;
                }
                lexer.advance();
            }
            return state == LINE || refuse();
        }

        private boolean step() {
            switch (state) {
                case LINE:
                    return beginLine();
                case TOLD_NAME:
                    return tellHere();
                case COMMA_OR_END:
                    return lexer.kind == ',' ? go(TOLD_NAME) : endLine();
                case TELL_OR_DRIVE:
                    return tellOrDrive();
                case GATE_WORD:
                    return takeGate();
                case DRIVER_WORD:
                    return takeDriver();
                case PAREN:
                    return lexer.kind == '(' ? go(PART) : refuse();
                case PART:
                    return takePart();
                case COMMA_OR_PAREN:
                    return behindPart();
                case DELAY_OR_END:
                    return lexer.kind == Lexer.DIGIT ? takeDelay() : endLine();
                default:
                    return endLine();
            }
        }

        private boolean go(int next) {
            state = next;
            return true;
        }

        private boolean failAt(int number, int place) {
            fault = number;
            faultPlace = place;
            return false;
        }

        private boolean refuse() {
            return failAt(lexer.kind == Lexer.BAD ? NO_TOKEN : CANNOT_STAND, lexer.start);
        }

        private boolean endLine() {
            return lexer.kind == ';' ? go(LINE) : refuse();
        }

        private boolean beginLine() {
            if (isWord(WORD_IN)) {
                return beginTelling(INPUT);
            }
            if (isWord(WORD_BUS)) {
                return beginTelling(BUS);
            }
            if (isWord(WORD_REG)) {
                return beginTelling(REGISTER);
            }
            if (!isName()) {
                return refuse();
            }
            // Only the sign behind the NAME says whether it is told here.
            lineName = lexer.word;
            linePlace = lexer.start;
            return go(TELL_OR_DRIVE);
        }

        private boolean beginTelling(int kind) {
            sort = kind;
            return go(TOLD_NAME);
        }

        private boolean tellHere() {
            if (!isName()) {
                return refuse();
            }
            if (!tell(lexer.word, lexer.start, sort)) {
                return false;
            }
            return sort == REGISTER ? beginParts(circuit.count - 1, 1, 2) : go(COMMA_OR_END);
        }

        private boolean tellOrDrive() {
            if (lexer.kind == '=') {
                sort = GATE;
                return tell(lineName, linePlace, GATE) && go(GATE_WORD);
            }
            if (lexer.kind == '<') {
                sort = DRIVER;
                return checkDrivers() && go(DRIVER_WORD);
            }
            return refuse();
        }

        private boolean tell(long name, int place, int kind) {
            if (circuit.count >= MAX_NODES) {
                return failAt(CANNOT_STAND, place);
            }
            if (circuit.find(name) != NONE) {
                return failAt(TOLD_ALREADY, place);
            }
            circuit.add(name, place, kind);
            return true;
        }

        /** The BUS may be told later on, so its DRIVERS are counted by its NAME. */
        private boolean checkDrivers() {
            int drivers = 0;
            for (int i = 0; i < uses; i++) {
                if (isHead(useRoles[i]) && useNames[i] == lineName) {
                    drivers++;
                }
            }
            return drivers < MAX_DRIVERS || failAt(CANNOT_STAND, linePlace);
        }

        private boolean takeGate() {
            int node = circuit.count - 1;
            int gate = gateHere();
            if (gate == NONE || !circuit.has(node)) {
                return refuse();
            }
            circuit.gates[node] = gate;
            return beginParts(node, LEAST_PARTS[gate], MOST_PARTS[gate]);
        }

        private boolean takeDriver() {
            if (!isWord(WORD_IF1) && !isWord(WORD_IF0)) {
                return refuse();
            }
            addUse(lineName, linePlace, isWord(WORD_IF0) ? HEAD_IF0 : HEAD_IF1);
            return beginParts(OF_DRIVER, 2, 2);
        }

        private boolean beginParts(int newRole, int newLeast, int newMost) {
            role = newRole;
            least = newLeast;
            most = newMost;
            taken = 0;
            return go(PAREN);
        }

        private boolean takePart() {
            if (!isName() || taken >= most) {
                return refuse();
            }
            addUse(lexer.word, lexer.start, role);
            taken++;
            return go(COMMA_OR_PAREN);
        }

        private boolean behindPart() {
            // NAMES too many of a GATE are refused at the NAME, so its comma may stand.
            if (lexer.kind == ',' && (sort == GATE || taken < most)) {
                return go(PART);
            }
            if (lexer.kind == ')' && taken >= least) {
                return go(sort == GATE ? DELAY_OR_END : LINE_END);
            }
            return refuse();
        }

        private boolean takeDelay() {
            if (circuit.has(role)) {
                circuit.delays[role] = lexer.digit;
            }
            return go(LINE_END);
        }

        private void addUse(long name, int place, int newRole) {
            if (uses >= MAX_USES) {
                return;
            }
            useNames[uses] = name;
            usePlaces[uses] = place;
            useRoles[uses] = newRole;
            uses++;
        }

        private boolean isWord(long word) {
            return lexer.kind == Lexer.WORD && lexer.word == word;
        }

        private boolean isName() {
            if (lexer.kind != Lexer.WORD || gateHere() != NONE) {
                return false;
            }
            long w = lexer.word;
            return w != WORD_IN && w != WORD_BUS && w != WORD_REG && w != WORD_IF1 && w != WORD_IF0;
        }

        private int gateHere() {
            for (int i = 0; i < GATE_WORDS.length && lexer.kind == Lexer.WORD; i++) {
                if (lexer.word == GATE_WORDS[i]) {
                    return i;
                }
            }
            return NONE;
        }

        private static boolean isHead(int role) {
            return role == HEAD_IF1 || role == HEAD_IF0;
        }

        private boolean linkUses() {
            int bus = NONE;
            for (int i = 0; i < uses; i++) {
                int node = circuit.find(useNames[i]);
                boolean isHead = isHead(useRoles[i]);
                if (node == NONE || (isHead && !circuit.isKind(node, BUS))) {
                    return failAt(TOLD_NOWHERE, usePlaces[i]);
                }
                if (isHead) {
                    bus = node;
                    circuit.beginDriver(bus, useRoles[i] == HEAD_IF0);
                } else {
                    circuit.addPart(useRoles[i] == OF_DRIVER ? bus : useRoles[i], node);
                }
            }
            return true;
        }

        private boolean checkLoops() {
            int count = circuit.count;
            System.arraycopy(circuit.hangs, 0, reach, 0, MAX_NODES);
            for (int via = 0; via < count; via++) {
                for (int i = 0; i < count; i++) {
                    if (((reach[i] >>> via) & 1) == 1) {
                        reach[i] |= reach[via];
                    }
                }
            }
            for (int i = 0; i < count; i++) {
                if (((reach[i] >>> i) & 1) == 1) {
                    return failAt(ON_ITSELF, circuit.places[i]);
                }
            }
            return true;
        }
    }

    /** What follows for NODES from a row of the four VALUES. */
    private static final class Logic {
        /** GATES by their place among the words: one with an odd number is that ahead of it, turned about. */
        static final int OR = 2;
        static final int XOR = 4;
        static final int MUX = 8;

        static void settle(Circuit circuit, int[] row) {
            for (int i = 0; i < circuit.count; i++) {
                int node = circuit.order[i];
                if (circuit.kinds[node] == GATE) {
                    row[node] = gateValue(circuit, node, row);
                } else if (circuit.kinds[node] == BUS) {
                    row[node] = busValue(circuit, node, row);
                }
            }
        }

        static int gateValue(Circuit circuit, int node, int[] row) {
            int gate = circuit.gates[node];
            if (gate == MUX) {
                return muxValue(circuit, node, row);
            }
            int zeros = 0;
            int ones = 0;
            int size = circuit.size(node);
            for (int i = 0; i < size; i++) {
                int v = row[circuit.part(node, i)];
                zeros += v == 0 ? 1 : 0;
                ones += v == 1 ? 1 : 0;
            }
            int v = plainValue(gate & ~1, zeros, ones, size);
            return isTurned(gate) && v < UNKNOWN ? 1 - v : v;
        }

        static boolean isTurned(int gate) {
            return (gate & 1) == 1;
        }

        private static int plainValue(int gate, int zeros, int ones, int size) {
            boolean isKnown = zeros + ones == size;
            switch (gate) {
                case OR:
                    return ones > 0 ? 1 : isKnown ? 0 : UNKNOWN;
                case XOR:
                    return isKnown ? ones & 1 : UNKNOWN;
                default:
                    // An and; a buf is an and of one.
                    return zeros > 0 ? 0 : isKnown ? 1 : UNKNOWN;
            }
        }

        private static int muxValue(Circuit circuit, int node, int[] row) {
            int s = row[circuit.part(node, 0)];
            int a = takenIn(row[circuit.part(node, 1)]);
            int b = takenIn(row[circuit.part(node, 2)]);
            if (s == 0) {
                return a;
            }
            if (s == 1) {
                return b;
            }
            return a == b ? a : UNKNOWN;
        }

        static int busValue(Circuit circuit, int node, int[] row) {
            int v = OPEN;
            int size = circuit.size(node);
            for (int i = 0; i < size; i++) {
                int given = driverValue(circuit, node, i, row);
                if (v == OPEN) {
                    v = given;
                } else if (given != OPEN && given != v) {
                    v = UNKNOWN;
                }
            }
            return v;
        }

        private static int driverValue(Circuit circuit, int bus, int driver, int[] row) {
            int d = row[circuit.part(bus, 2 * driver)];
            int e = row[circuit.part(bus, 2 * driver + 1)];
            if (e >= UNKNOWN) {
                return UNKNOWN;
            }
            int on = circuit.isLow(bus, driver) ? 0 : 1;
            return e == on ? takenIn(d) : OPEN;
        }

        static int afterTick(Circuit circuit, int register, int[] row) {
            int old = row[register];
            int d = takenIn(row[circuit.part(register, 0)]);
            int e = circuit.size(register) > 1 ? row[circuit.part(register, 1)] : 1;
            if (e == 1) {
                return d;
            }
            if (e == 0) {
                return old;
            }
            return d == old ? old : UNKNOWN;
        }

        private static int takenIn(int v) {
            return v == OPEN ? UNKNOWN : v;
        }
    }

    /** Goes through all WORLDS, 64 at a time: each bit of a long is one WORLD. */
    private static final class Worlds {
        private static final int BLOCK_BITS = 6;
        /** What the first six free NODES are in the 64 WORLDS of a block. */
        private static final long[] PATTERNS = {
            0xAAAAAAAAAAAAAAAAL, 0xCCCCCCCCCCCCCCCCL, 0xF0F0F0F0F0F0F0F0L,
            0xFF00FF00FF00FF00L, 0xFFFF0000FFFF0000L, 0xFFFFFFFF00000000L
        };

        int legalCount;
        /** Bit j: NODE j is 0 (or 1) in some LEGAL WORLD. */
        private long zeros;
        private long ones;
        private final long[] rows = new long[MAX_NODES];
        private long legalHere;

        void goThrough(Circuit circuit, int[] values, int free) {
            legalCount = 0;
            zeros = 0;
            ones = 0;
            int blocks = free > BLOCK_BITS ? 1 << (free - BLOCK_BITS) : 1;
            long all = free >= BLOCK_BITS ? -1L : (1L << (1 << free)) - 1;
            for (int block = 0; block < blocks; block++) {
                legalHere = all;
                fillSources(circuit, values, block);
                followOthers(circuit);
                collect(circuit);
            }
        }

        boolean isEver(int node, int v) {
            return (((v == 0 ? zeros : ones) >>> node) & 1) == 1;
        }

        int sharpValue(int node) {
            if (legalCount == 0) {
                return OPEN;
            }
            if (isEver(node, 0)) {
                return isEver(node, 1) ? UNKNOWN : 0;
            }
            return 1;
        }

        private void fillSources(Circuit circuit, int[] values, int block) {
            int free = 0;
            for (int i = 0; i < circuit.count; i++) {
                if (!circuit.isSource(i)) {
                    continue;
                }
                if (values[i] >= UNKNOWN) {
                    rows[i] = freeRow(free, block);
                    free++;
                } else {
                    rows[i] = values[i] == 1 ? -1L : 0;
                }
            }
        }

        private static long freeRow(int free, int block) {
            if (free < PATTERNS.length) {
                return PATTERNS[free];
            }
            return ((block >> (free - BLOCK_BITS)) & 1) == 1 ? -1L : 0;
        }

        private void followOthers(Circuit circuit) {
            for (int i = 0; i < circuit.count; i++) {
                int node = circuit.order[i];
                if (circuit.kinds[node] == GATE) {
                    rows[node] = gateRow(circuit, node);
                } else if (circuit.kinds[node] == BUS) {
                    rows[node] = busRow(circuit, node);
                }
            }
        }

        private long gateRow(Circuit circuit, int node) {
            int gate = circuit.gates[node];
            long row = rows[circuit.part(node, 0)];
            if (gate == Logic.MUX) {
                return (~row & rows[circuit.part(node, 1)]) | (row & rows[circuit.part(node, 2)]);
            }
            int size = circuit.size(node);
            for (int i = 1; i < size; i++) {
                row = join(gate & ~1, row, rows[circuit.part(node, i)]);
            }
            return Logic.isTurned(gate) ? ~row : row;
        }

        private static long join(int gate, long a, long b) {
            switch (gate) {
                case Logic.OR:
                    return a | b;
                case Logic.XOR:
                    return a ^ b;
                default:
                    return a & b;
            }
        }

        private long busRow(Circuit circuit, int node) {
            long row = 0;
            long some = 0;
            long several = 0;
            int size = circuit.size(node);
            for (int i = 0; i < size; i++) {
                long e = rows[circuit.part(node, 2 * i + 1)];
                long on = circuit.isLow(node, i) ? ~e : e;
                row |= on & rows[circuit.part(node, 2 * i)];
                several |= some & on;
                some |= on;
            }
            legalHere &= some & ~several;
            return row;
        }

        private void collect(Circuit circuit) {
            legalCount += Long.bitCount(legalHere);
            for (int i = 0; i < circuit.count; i++) {
                if ((rows[i] & legalHere) != 0) {
                    ones |= 1L << i;
                }
                if ((~rows[i] & legalHere) != 0) {
                    zeros |= 1L << i;
                }
            }
        }
    }

    /** THE WHEEL: its own values, its time and what is to come. */
    private static final class Wheel {
        /** A DELAY is 9 at most, so that ten slots hold all that is to come to a GATE, one a time. */
        private static final int SLOTS = 10;
        private static final int MAX_WAVE = 20;

        int time;
        int toCome;
        final int[] values = new int[MAX_NODES];
        /** What each GATE was to be last. */
        private final int[] lastTold = new int[MAX_NODES];
        private final int[] slots = new int[MAX_NODES * SLOTS];
        private final int[] waves = new int[MAX_NODES * MAX_WAVE];
        private final int[] waveCounts = new int[MAX_NODES];
        /** Bit j: NODE j changed and GATES have not been looked at since. */
        private long changed;

        void begin(Circuit circuit, int[] now) {
            time = 0;
            toCome = 0;
            changed = 0;
            for (int i = 0; i < circuit.count; i++) {
                values[i] = now[i];
                lastTold[i] = now[i];
                waveCounts[i] = 0;
            }
            for (int i = 0; i < circuit.count * SLOTS; i++) {
                slots[i] = NONE;
            }
        }

        /** How many changes there were, 0 or 1. */
        int change(int node, int v) {
            if (values[node] == v) {
                return 0;
            }
            values[node] = v;
            changed |= 1L << node;
            if (waveCounts[node] < MAX_WAVE) {
                waves[node * MAX_WAVE + waveCounts[node]] = 4 * time + v;
                waveCounts[node]++;
            }
            return 1;
        }

        /** What was put and is not looked at yet may still bring changes, though none is told. */
        int quiet() {
            return toCome == 0 && changed == 0 ? 1 : 0;
        }

        int changeOf(int node, int k) {
            return k >= 0 && k < waveCounts[node] ? waves[node * MAX_WAVE + k] : NONE;
        }

        int turn(Circuit circuit, int n) {
            int last = time + n;
            int changes = follow(circuit);
            for (int i = 0; i < n && toCome > 0; i++) {
                time++;
                changes += arrive(circuit);
                changes += follow(circuit);
            }
            time = last;
            return changes;
        }

        /** Behind very many calls the time wraps around and is below 0, and a plain remainder would be, too. */
        private static int slotAt(int node, int when) {
            return node * SLOTS + Math.floorMod(when, SLOTS);
        }

        private int arrive(Circuit circuit) {
            int changes = 0;
            for (int i = 0; i < circuit.count; i++) {
                int slot = slotAt(i, time);
                if (slots[slot] != NONE) {
                    changes += change(i, slots[slot]);
                    slots[slot] = NONE;
                    toCome--;
                }
            }
            return changes;
        }

        private int follow(Circuit circuit) {
            if (changed == 0) {
                return 0;
            }
            int changes = changeBuses(circuit);
            for (int i = 0; i < circuit.count; i++) {
                if (circuit.kinds[i] == GATE && circuit.dependsOn(i, changed)) {
                    lookAt(circuit, i);
                }
            }
            changed = 0;
            return changes;
        }

        private int changeBuses(Circuit circuit) {
            int changes = 0;
            for (int i = 0; i < circuit.count; i++) {
                int node = circuit.order[i];
                if (circuit.kinds[node] == BUS) {
                    changes += change(node, Logic.busValue(circuit, node, values));
                }
            }
            return changes;
        }

        private void lookAt(Circuit circuit, int gate) {
            int v = Logic.gateValue(circuit, gate, values);
            if (v == lastTold[gate]) {
                return;
            }
            lastTold[gate] = v;
            int slot = slotAt(gate, time + circuit.delays[gate]);
            if (slots[slot] == NONE) {
                toCome++;
            }
            slots[slot] = v;
        }
    }
}
