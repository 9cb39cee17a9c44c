/**
 * CIRCUITS and promises 4 to 7 at their edges: each test is of one sentence of the document, which stands above it.
 */
public final class ReadEdgeTest {
    private static final String[] MANY = {"and", "or", "nand", "nor", "xor", "xnor"};
    private static final String[] NO_NAMES = {
        "in", "bus", "reg", "if1", "if0", "and", "or", "nand", "nor", "xor", "xnor", "not", "buf", "mux"
    };
    private static final int LEAST = Integer.MIN_VALUE;
    private static final int GREATEST = Integer.MAX_VALUE;

    public static void main(String[] args) {
        text();
        nodesOfText();
        circuits();
        promises();
        Check.finish();
    }

    private static void text() {
        atMostTwoThousandBytes();
        fullOfNames();
        notBehindTheEnd();
        noLine();
        inNames();
        busNames();
        gatesOfTwoToSix();
        gatesOfOne();
        mux();
        registersOfOneOrTwo();
        driversOfTwo();
        delays();
        firstByteOfAWord();
        laterBytesOfAWord();
        eightBytesAtMost();
        everyByte();
        blanksPartOrNot();
        asLongAsCanBe();
        nothingBehindADigit();
        noNames();
    }

    private static void nodesOfText() {
        numberedAsTold();
        sixtyAtMost();
        toldAnywhere();
        sixDriversAtMost();
    }

    private static void circuits() {
        noneHangsOnItself();
        registersAndInputsHangOnNone();
        firstByItsPlace();
        theEnd();
        atOnePlaceTheLeast();
        toldAlready();
        toldNowhereOnlyIfNoneElse();
        noBusAheadOfDriver();
        firstToldNowhere();
        loopsLastOfAll();
        firstThatHangsOnItself();
    }

    private static void promises() {
        tapeIsEmptyThen();
        allStaysAtAFault();
        noWheelThen();
        nothingIsLeftOfTheOldOne();
        faultOfTheLatestRead();
        faultOfAnotherWhat();
        zerosLeftOut();
        noSuchName();
        nodesInParentheses();
        driversOfABus();
        delayOfNoGate();
        levels();
        noSuchNode();
    }

    private static void fault(String text, int number, int place) {
        GateWheel x = new GateWheel();
        Check.due("read() of " + text, Check.read(x, text), -1);
        Check.due("fault(0) of " + text, x.fault(0), number);
        Check.due("fault(1) of " + text, x.fault(1), place);
        Check.due("about(0) behind " + text, x.about(0), 0);
    }

    private static GateWheel good(String text, int nodes) {
        GateWheel x = new GateWheel();
        Check.due("read() of " + text, Check.read(x, text), nodes);
        Check.due("fault(0) of " + text, x.fault(0), 0);
        Check.due("fault(1) of " + text, x.fault(1), -1);
        Check.due("about(0) behind " + text, x.about(0), nodes);
        return x;
    }

    /** "a" n times, parted by commas. */
    private static String names(int n) {
        return n == 0 ? "" : "a" + ",a".repeat(n - 1);
    }

    /** "A text of at most 2,000 bytes": the last of them counts, and the end may be at 2,000. */
    private static void atMostTwoThousandBytes() {
        String blanks = " ".repeat(1995);
        good(blanks + "in a;", 1);
        good("in a" + blanks + ";", 1);
        fault(blanks + "in a,", 2, 2000);
        fault(blanks + "in a#", 1, 1999);
        fault(" ".repeat(1999) + "a", 2, 2000);
        fault(" ".repeat(1986) + "in a;g=not(a)3", 2, 2000);
        fault(" ".repeat(1999) + ";", 2, 1999);
        StringBuilder full = new StringBuilder("in a,b;");
        for (int i = 2; i < 60; i++) {
            full.append("long").append(i).append("=xor (a,b,a,b,a,b) 9 ;\n");
        }
        Check.due("length of 60 long lines", full.length() < 2000, true);
        good(full + " ".repeat(2000 - full.length()), 60);
    }

    /** "at most 2,000 bytes", "60 at most", "2 to 6", "6 at most each": as many NAMES as they leave room for. */
    private static void fullOfNames() {
        StringBuilder text = new StringBuilder("in a;");
        for (int i = 0; i < 17; i++) {
            text.append(i == 0 ? "bus " : ",").append(shortName(i));
        }
        text.append(";");
        for (int i = 0; i < 17; i++) {
            text.append((shortName(i) + "<if1(a,a);").repeat(6));
        }
        for (int i = 17; i < 59; i++) {
            text.append(shortName(i)).append("=or(a,a,a,a,a,a);");
        }
        Check.due("at most 2,000, not " + text.length(), text.length() <= 2000, true);
        GateWheel x = good(text.toString(), 60);
        for (int i = 1; i < 60; i++) {
            Check.due("node(" + i + ", 1)", x.node(i, 1), 6);
            Check.due("node(" + i + ", 3)", x.node(i, 3), 1);
        }
        String cut = text.substring(0, text.length() - 3);
        fault(cut + "z);", 4, cut.length());
    }

    /** b to y, then bb to by and cb to cy: short, and none of the words that are no NAMES. */
    private static String shortName(int i) {
        String letter = String.valueOf((char) ('b' + i % 24));
        return i < 24 ? letter : (char) ('a' + i / 24) + letter;
    }

    /** "the end: the text's length": what end() cut off is no part of a TOKEN. */
    private static void notBehindTheEnd() {
        String text = "in ab;g=not(ab)34;#x";
        int[] faults = {0, 2, 2, 2, 2, 2, 0, 2, 2, 2, 2, 2, 2, 2, 2, 2, 2, 1, 1, 1, 1};
        int[] places = {-1, 1, 2, 3, 4, 5, -1, 7, 8, 8, 8, 11, 12, 13, 14, 15, 16, 15, 15, 15, 15};
        for (int n = 0; n <= text.length(); n++) {
            GateWheel x = new GateWheel();
            Check.tape(x, text);
            x.end(n);
            x.read();
            Check.due("fault(0) of the first " + n, x.fault(0), faults[n]);
            Check.due("fault(1) of the first " + n, x.fault(1), places[n]);
        }
    }

    /** "net = {line}": also none. */
    private static void noLine() {
        good("", 0);
        good(" ", 0);
        good("\n", 0);
        good(" ".repeat(2000), 0);
        fault(";", 2, 0);
        fault("in a;;", 2, 5);
    }

    /** "in NAME {, NAME} ;": one at least. */
    private static void inNames() {
        fault("in;", 2, 2);
        good("in a;", 1);
        good("in a,b;", 2);
        fault("in a,;", 2, 5);
        fault("in ,a;", 2, 3);
        fault("in a b;", 2, 5);
        fault("in a,,b;", 2, 5);
        fault("in a)", 2, 4);
        fault("in 1;", 2, 3);
        good(Check.inputs(60) + ";", 60);
    }

    /** "bus NAME {, NAME} ;": one at least. */
    private static void busNames() {
        fault("bus;", 2, 3);
        good("bus a;", 1);
        good("bus a,b;", 2);
        fault("bus a,;", 2, 6);
        fault("bus a b;", 2, 6);
        fault("bus a(b);", 2, 5);
        good("bus " + Check.inputs(60).substring(3) + ";", 60);
    }

    /** "and or nand nor xor xnor (2 to 6 NAMES)"; ".. at the first too many, or the )". */
    private static void gatesOfTwoToSix() {
        for (String gate : MANY) {
            String head = "in a;g=" + gate + "(";
            fault(head + ");", 2, head.length());
            fault(head + "a);", 2, head.length() + 1);
            for (int n = 2; n <= 6; n++) {
                GateWheel x = good(head + names(n) + ");", 2);
                Check.due("node(1, 1) of " + gate, x.node(1, 1), n);
            }
            fault(head + names(7) + ");", 2, head.length() + 12);
            fault(head + names(9) + ");", 2, head.length() + 12);
            fault(head + names(6) + ",);", 2, head.length() + 12);
            fault(head + names(6) + " , \n a);", 2, head.length() + 16);
            fault(head + names(7), 2, head.length() + 12);
        }
    }

    /** "not buf (1)"; ".. at the first too many, or the )". */
    private static void gatesOfOne() {
        for (String gate : new String[] {"not", "buf"}) {
            fault("in a;g=" + gate + "();", 2, 11);
            good("in a;g=" + gate + "(a);", 2);
            fault("in a;g=" + gate + "(a,a);", 2, 13);
            fault("in a;g=" + gate + "(a,a,a);", 2, 13);
            fault("in a;g=" + gate + "(a,;", 2, 13);
        }
    }

    /** "mux (3)"; ".. at the first too many, or the )". */
    private static void mux() {
        fault("in a;g=mux();", 2, 11);
        fault("in a;g=mux(a);", 2, 12);
        fault("in a;g=mux(a,a);", 2, 14);
        good("in a;g=mux(a,a,a);", 2);
        fault("in a;g=mux(a,a,a,a);", 2, 17);
        fault("in a;g=mux(a,a,a,a,a);", 2, 17);
    }

    /** "reg NAME ( NAME [, NAME] ) ;". */
    private static void registersOfOneOrTwo() {
        fault("in a;reg q();", 2, 11);
        good("in a;reg q(a);", 2);
        good("in a;reg q(a,a);", 2);
        fault("in a;reg q(a,a,a);", 2, 14);
        fault("in a;reg q(a,);", 2, 13);
        fault("in a;reg q,r(a);", 2, 10);
        fault("in a;reg q;", 2, 10);
        fault("in a;reg (a);", 2, 9);
    }

    /** "NAME < if1 ( NAME , NAME ) ;  |  NAME < if0 ( NAME , NAME ) ;". */
    private static void driversOfTwo() {
        for (String word : new String[] {"if1", "if0"}) {
            String head = "in a;bus b;b<" + word;
            fault(head + "();", 2, 17);
            fault(head + "(a);", 2, 18);
            good(head + "(a,a);", 2);
            fault(head + "(a,);", 2, 19);
            fault(head + "(a,a,a);", 2, 20);
            fault(head + " a,a;", 2, 17);
            fault(head + ";", 2, 16);
        }
        for (String word : new String[] {"if", "if2", "not", "and", "in", "b", "1", ";"}) {
            fault("in a;bus b;b<" + word + "(a,a);", 2, 13);
        }
        fault("in a;bus b;b=if1(a,a);", 3, 11);
        fault("in a;b=if1(a,a);", 2, 7);
    }

    /** "DELAY: 1 to 9 (1 without)": one, behind a GATE's ) alone. */
    private static void delays() {
        for (int delay = 1; delay <= 9; delay++) {
            Check.due("node(1, 2)", good("in a;g=not(a)" + delay + ";", 2).node(1, 2), delay);
            Check.due("node(1, 2)", good("in a;g=not(a) " + delay + " ;", 2).node(1, 2), delay);
        }
        Check.due("node(1, 2) without", good("in a;g=not(a);", 2).node(1, 2), 1);
        Check.due("node(2, 2) behind a line with 9", good("in a;f=not(a)9;g=not(a);", 3).node(2, 2), 1);
        fault("in a;g=not(a)0;", 1, 13);
        fault("in a;g=not(a)10;", 1, 13);
        fault("in a;g=not(a)1 1;", 2, 15);
        fault("in a;g=not(a)-1;", 1, 13);
        fault("in a;g=not 2(a);", 2, 11);
        fault("in a;g=not(2);", 2, 11);
        fault("in a 2;", 2, 5);
        fault("bus a 2;", 2, 6);
        fault("in a;reg q(a)2;", 2, 13);
        fault("in a;bus b;b<if1(a,a)2;", 2, 21);
    }

    /** "words (a .. z, then ..": the bytes beside a and z, too. */
    private static void firstByteOfAWord() {
        good("in a;", 1);
        good("in z;", 1);
        for (char c : new char[] {'a' - 1, 'z' + 1, 'A', 'Z', '_', '0', 'a' + 128, 0, 255}) {
            fault("in " + c + ";", 1, 3);
            fault("in " + c + "a;", 1, 3);
        }
        fault("in 1;", 2, 3);
        fault("in 9;", 2, 3);
        fault("in 1a;", 1, 3);
    }

    /** "words (.., then a .. z, 0 .. 9": the bytes beside them, too. */
    private static void laterBytesOfAWord() {
        for (char c : new char[] {'a', 'z', '0', '9'}) {
            Check.due("named(x" + c + ")", good("in x" + c + ";", 1).named('x' << 8 | c), 0);
        }
        for (char c : new char[] {'a' - 1, 'z' + 1, '0' - 1, '9' + 1, 'A', '_', 'a' + 128, '0' + 128}) {
            fault("in x" + c + ";", 1, 4);
        }
    }

    /** "words (.. 8 bytes at most)". */
    private static void eightBytesAtMost() {
        good("in abcdefgh;", 1);
        good("in a1234567;", 1);
        good("in aaaaaaaa,aaaaaaab,baaaaaaa;", 3);
        fault("in aaaaaaaa,aaaaaaaa;", 3, 12);
        for (String word : new String[] {"abcdefghi", "a12345678", "abcdefgh9", "a".repeat(1900)}) {
            fault("in " + word + ";", 1, 3);
            fault("in a;g=not(" + word + ");", 1, 11);
            fault("in a;" + word + "=not(a);", 1, 5);
            fault("in a;reg " + word + "(a);", 1, 9);
        }
        // A word that begins like one of eight bytes is not that one.
        fault("in abcdefgh;g=not(abcdefghi);", 1, 18);
        // Nine bytes of which the last eight, or three, are another word.
        fault("in a;g=aaaaaaand(a,a);", 1, 7);
        fault("in bcdefghi;g=not(abcdefghi);", 1, 18);
    }

    /** "TOKENS: words, one digit 1 .. 9, signs , ; = ( ) < ; blanks (32, 10)": every byte, alone. */
    private static void everyByte() {
        for (int b = 0; b < 256; b++) {
            String text = String.valueOf((char) b);
            if (b == 32 || b == 10) {
                good(text, 0);
                good("in a" + text + ";", 1);
            } else if (b >= 'a' && b <= 'z') {
                fault(text, 2, 1);
            } else if (b >= '1' && b <= '9' || b > 0 && ",;=()<".indexOf(b) >= 0) {
                fault(text, 2, 0);
                fault("in a;" + text, 2, 5);
            } else {
                fault(text, 1, 0);
                fault("in a;" + text, 1, 5);
            }
        }
    }

    /** "blanks (32, 10) part them or not". */
    private static void blanksPartOrNot() {
        String[] lines = {"in a,e;", "bus b;", "g=mux(a,e,b)9;", "reg q(g,e);", "b<if1(a,e);", "b<if0(q,e);"};
        String close = String.join("", lines);
        good(close, 5);
        for (String blank : new String[] {" ", "\n", "  ", "\n\n", " \n ", "\n "}) {
            StringBuilder wide = new StringBuilder(blank);
            for (String token : close.split("(?<=[,;=()<])|(?=[,;=()<])|(?<= )")) {
                wide.append(token).append(blank);
            }
            good(wide.toString(), 5);
        }
        fault("in a;g=n ot(a);", 2, 7);
        fault("in a\t,b;", 1, 4);
        fault("in a\r\n,b;", 1, 4);
    }

    /** "a word is as long as can be". */
    private static void asLongAsCanBe() {
        fault("ina;", 2, 3);
        fault("busa;", 2, 4);
        fault("in a;regq(a);", 2, 9);
        fault("in a;g=nota;", 2, 7);
        fault("in a;g=not1(a);", 2, 7);
        fault("in a;g=xnor2(a,a);", 2, 7);
        good("in in1;", 1);
        good("in a;g=not(a)1;", 2);
    }

    /** "no letter or digit directly behind a digit". */
    private static void nothingBehindADigit() {
        for (char c : new char[] {'0', '1', '9', 'a', 'z'}) {
            fault("in a;g=not(a)3" + c + ";", 1, 13);
        }
        good("in a;g=not(a)3 ;h=not(g)4\n;", 3);
        good("in a;g=not(a)3;h=not(g)4;", 3);
        fault("in a;g=not(a)3 4;", 2, 15);
        fault("in a;g=not(a)3 x;", 2, 15);
        fault("in a;g=not(a)3", 2, 14);
        fault("in a;g=not(a)3,", 2, 14);
        // In a word it is no digit of its own.
        good("in a12;", 1);
    }

    /** "in bus reg if1 if0 and the GATES are no NAMES": at each place of a NAME. */
    private static void noNames() {
        for (String word : NO_NAMES) {
            fault("in " + word + ";", 2, 3);
            fault("in a," + word + ";", 2, 5);
            fault("bus " + word + ";", 2, 4);
            fault("in a;reg " + word + "(a);", 2, 9);
            fault("in a;reg q(" + word + ");", 2, 11);
            fault("in a;reg q(a," + word + ");", 2, 13);
            fault("in a;g=and(" + word + ",a);", 2, 11);
            fault("in a;g=and(a," + word + ");", 2, 13);
            fault("in a;bus b;b<if1(" + word + ",a);", 2, 17);
            fault("in a;bus b;b<if1(a," + word + ");", 2, 19);
        }
        for (String word : new String[] {"if1", "if0", "and", "or", "nand", "nor", "xor", "xnor", "not", "buf", "mux"}) {
            fault(word + "=not(a);", 2, 0);
            fault(word + "<if1(a,a);", 2, 0);
        }
        fault("in=not(a);", 2, 2);
        fault("bus<if1(a,a);", 2, 3);
        // Words beside them are.
        good("in i,n,inn,bu,buss,re,regs,if,if2,if10,an,ands,o,ors,nan,no,nort,xo,xnors,nots,muxx,bufs,mu;", 23);
    }

    /** "NODES are numbered as their NAMES are told (by in, bus, = or reg), from 0 on". */
    private static void numberedAsTold() {
        GateWheel x = good("g=and(z,y);b<if1(z,g);in z,y;reg q(b);bus c,b;h=not(q);", 7);
        String[] told = {"g", "z", "y", "q", "c", "b", "h"};
        int[] kinds = {2, 0, 0, 3, 1, 1, 2};
        for (int i = 0; i < told.length; i++) {
            Check.due("named(" + told[i] + ")", Check.node(x, told[i]), i);
            Check.due("node(" + i + ", 0)", x.node(i, 0), kinds[i]);
        }
    }

    /** "NODES .. 60 at most"; "too many of a sort: at the NAME". */
    private static void sixtyAtMost() {
        String full = Check.inputs(60);
        String less = Check.inputs(59);
        String[] tellings = {";in x;", ";bus x;", ";reg x(n0);", ";x=not(n0);"};
        int[] names = {4, 5, 5, 1};
        for (int i = 0; i < tellings.length; i++) {
            good(less + tellings[i], 60);
            fault(full + tellings[i], 2, full.length() + names[i]);
        }
        fault(full + ",x;", 2, full.length() + 1);
        fault(full + ", \nx,y;", 2, full.length() + 3);
        // A DRIVER is no NODE.
        String drivers = less.replace(",n58", ";bus n58;");
        good(drivers + "n58<if1(n0,n1);", 59);
        good(drivers + "bus n59;n59<if1(n0,n1);n58<if0(n0,n1);", 60);
    }

    /** "Other NAMES in ( ) may be told anywhere": ahead and behind. */
    private static void toldAnywhere() {
        good("in a;g=not(a);", 2);
        good("g=not(a);in a;", 2);
        good("g=and(h,a);h=or(a,q);reg q(g,b);b<if0(h,a);bus b;in a;", 5);
        good("b<if1(a,e);bus b;in a,e;", 3);
        fault("g=not(a);", 4, 6);
    }

    /** "a DRIVER of a BUS, 6 at most each"; "too many of a sort: at the NAME". */
    private static void sixDriversAtMost() {
        for (int n = 0; n <= 6; n++) {
            GateWheel x = good("in a;bus b;" + "b<if1(a,a);".repeat(n), 2);
            Check.due("node(1, 1)", x.node(1, 1), n);
        }
        String six = "in a;bus b,c;" + "b<if1(a,a);".repeat(3) + "b<if0(a,a);".repeat(3);
        fault(six + "b<if1(a,a);", 2, six.length());
        fault(six + "\nb <if0(a,a);", 2, six.length() + 1);
        // They are counted anew in each text.
        GateWheel x = good(six, 3);
        Check.due("read() of six again", Check.read(x, six), 3);
        Check.due("read() of six once more", Check.read(x, six), 3);
        String both = six + "c<if1(a,a);".repeat(6);
        good(both, 3);
        fault(both + "c<if0(a,a);", 2, both.length());
        fault(both + "b<if0(a,a);", 2, both.length());
    }

    /** "None may hang on itself by way of others": itself, by one, by all sixty, by d and by e. */
    private static void noneHangsOnItself() {
        fault("g=not(g);", 5, 0);
        fault("in a;g=and(a,a,a,a,a,g);", 5, 5);
        fault("g=not(h);h=not(g);", 5, 0);
        fault("in a;bus b;b<if1(b,a);", 5, 9);
        fault("in a;bus b;b<if1(a,b);", 5, 9);
        fault("in a;bus b;" + "b<if1(a,a);".repeat(5) + "b<if0(a,b);", 5, 9);
        fault("in a;g=buf(b);bus b;b<if1(a,g);", 5, 5);
        fault("in a;bus b,c;b<if1(a,c);c<if0(b,a);", 5, 9);
        StringBuilder ring = new StringBuilder();
        for (int i = 0; i < 60; i++) {
            ring.append("n").append(i).append("=buf(n").append((i + 1) % 60).append(");");
        }
        fault(ring.toString(), 5, 0);
        good(ring.toString().replace("n59=buf(n0)", "reg n59(n0)"), 60);
        good(ring.toString().replace("n59=buf(n0)", "in n59"), 60);
    }

    /** "a REGISTER and an INPUT [hang] on none". */
    private static void registersAndInputsHangOnNone() {
        good("reg q(q);", 1);
        good("reg q(q,q);", 1);
        good("reg q(r);reg r(q);", 2);
        good("reg q(g,b);g=not(q);bus b;b<if1(g,q);", 3);
    }

    /** "FAULTS, the first by its place". */
    private static void firstByItsPlace() {
        fault("in a,a;#", 3, 5);
        fault("in a,#;in a;", 1, 5);
        fault("in ;#", 2, 3);
        fault("in a;in a b;", 3, 8);
        fault("in a;g=not(a,a)#", 2, 13);
        fault("in a;g=not(a)#(a,a)", 1, 13);
        fault("in a;a=nothing", 3, 5);
        fault("in a;a nothing", 2, 7);
        fault("in a;a#nothing", 1, 6);
    }

    /** "place (bytes from 0; the end: the text's length)": behind each TOKEN of a line. */
    private static void theEnd() {
        String[] texts = {
            "in", "in a", "in a,", "bus", "bus b", "bus b,", "g", "g=", "g=not", "g=not(", "g=not(a", "g=not(a)",
            "g=not(a)4", "g=and(a,", "reg", "reg q", "reg q(", "reg q(a", "reg q(a,", "reg q(a,e", "reg q(a)",
            "b<", "b<if1", "b<if0(", "b<if0(a", "b<if0(a,", "b<if0(a,e", "b<if0(a,e)"
        };
        for (String text : texts) {
            fault(text, 2, text.length());
            fault("in x;" + text, 2, text.length() + 5);
            fault(text + " \n", 2, text.length() + 2);
        }
    }

    /** "at one place the least": 1 ahead of 2, 2 ahead of 3. */
    private static void atOnePlaceTheLeast() {
        fault("0", 1, 0);
        fault("in 12;", 1, 3);
        fault("in a;g=and(a#", 1, 12);
        String full = Check.inputs(60);
        fault(full + ",abcdefghi;", 1, full.length() + 1);
        fault(full + ",n59;", 2, full.length() + 1);
        fault(full + ";n0=not(n1);", 2, full.length() + 1);
        String less = Check.inputs(59);
        fault(less + ",n58;", 3, less.length() + 1);
        fault(less + ";n0=not(n1);", 3, less.length() + 1);
    }

    /** "3 a NAME that is told already": by each way of telling. */
    private static void toldAlready() {
        String[] first = {"in x;", "bus x;", "reg x(a);", "x=not(a);"};
        String[] second = {"in x;", "bus x;", "reg x(a);", "x=not(a);", "in y,x;", "bus y,x;"};
        int[] places = {3, 4, 4, 0, 5, 6};
        for (String one : first) {
            for (int i = 0; i < second.length; i++) {
                fault("in a;" + one + second[i], 3, 5 + one.length() + places[i]);
            }
        }
        fault("in x,x;", 3, 5);
        // A DRIVER tells no NAME.
        good("in a;bus x;x<if1(a,a);", 2);
        good("in a;x<if1(a,a);bus x;", 2);
    }

    /** "If there is none: 4 a NAME that is told nowhere": behind FAULTS 1 to 3, wherever they are. */
    private static void toldNowhereOnlyIfNoneElse() {
        fault("g=not(a);#", 1, 9);
        fault("g=not(a);", 4, 6);
        fault("g=not(a);in", 2, 11);
        fault("g=not(a);in g;", 3, 12);
        fault("a<if1(b,c);#", 1, 11);
    }

    /** "4 a NAME that .. is no BUS ahead of <". */
    private static void noBusAheadOfDriver() {
        fault("in a;x<if1(a,a);", 4, 5);
        fault("in a;a<if1(a,a);", 4, 5);
        fault("in a;g=not(a);g<if0(a,a);", 4, 14);
        fault("in a;reg q(a);q<if0(a,a);", 4, 14);
        fault("in a;g<if0(a,a);g=not(a);", 4, 5);
        good("in a;bus b;b<if0(a,a);", 2);
    }

    /** "4 .. (the first such)": at each place of a NAME. */
    private static void firstToldNowhere() {
        fault("in a;g=and(x,y);", 4, 11);
        fault("in a;g=and(a,a,a,a,a,y);", 4, 21);
        fault("in a;g=mux(a,a,y);h=not(x);", 4, 15);
        fault("in a;reg q(x);", 4, 11);
        fault("in a;reg q(a,x);", 4, 13);
        fault("in a;bus b;b<if1(x,a);", 4, 17);
        fault("in a;bus b;b<if1(a,x);", 4, 19);
        fault("in a;x<if1(y,z);", 4, 5);
        fault("in a;g=not(x);a<if1(a,a);", 4, 11);
        fault("in a;a<if1(a,a);g=not(x);", 4, 5);
        fault("in a;bus b;" + "b<if1(a,a);".repeat(5) + "b<if1(a,x);", 4, 74);
        // A NAME of a DRIVER alone is told nowhere.
        fault("in a;x<if1(a,a);g=not(x);", 4, 5);
    }

    /** "else 5": behind all others, wherever they are. */
    private static void loopsLastOfAll() {
        fault("g=not(g);#", 1, 9);
        fault("g=not(g);;", 2, 9);
        fault("g=not(g);in g;", 3, 12);
        fault("g=not(g);h=not(x);", 4, 15);
        fault("g=not(g);g<if1(g,g);", 4, 9);
        fault("g=not(g);", 5, 0);
    }

    /** "5: at the NAME (where it is told) of the first NODE that hangs on itself". */
    private static void firstThatHangsOnItself() {
        // The first hangs on one that hangs on itself, but not on itself.
        fault("f=not(g);g=not(g);", 5, 9);
        fault("in a;x=and(a,h);g=not(h);h=not(g);", 5, 16);
        fault("h=not(g);in a;g=not(h);", 5, 0);
        fault("in a;b<if1(a,g);g=not(b);bus b;", 5, 16);
        fault("in a;b<if1(a,b);c<if1(a,c);bus c,b;", 5, 31);
        fault("in a;  g = not(g);", 5, 7);
        StringBuilder late = new StringBuilder("in n0;");
        for (int i = 1; i < 59; i++) {
            late.append("n").append(i).append("=buf(n").append(i - 1).append(");");
        }
        fault(late + "z=not(z);", 5, late.length());
    }

    /** "The TAPE (empty then)". */
    private static void tapeIsEmptyThen() {
        for (String text : new String[] {"in a;", "in #", ""}) {
            GateWheel x = new GateWheel();
            Check.read(x, text);
            Check.due("end(1) behind read()", x.end(1), -1);
            Check.due("end(0) behind read()", x.end(0), 0);
            Check.due("feed behind read()", x.feed(0x696e2062, 0x3b202020, 0x20202020, 0x20202020, 0x20202020), 20);
            Check.due("read()", x.read(), 1);
            Check.due("named(b)", x.named('b'), 0);
            Check.due("read() of nothing", x.read(), 0);
        }
    }

    /** "NONE: a FAULT (all stays)": at each of the FAULTS. */
    private static void allStaysAtAFault() {
        String[] texts = {"in x,#", "in x,y,z;reg in", "in x,y,x;", "in x;g=not(z);", "bus x;g=not(g);"};
        for (int i = 0; i < texts.length; i++) {
            GateWheel x = Check.bench("in a,e;bus b;b<if1(a,e);g=not(b)3;reg q(g,e);");
            Check.set(x, 1, 1);
            x.load(4, 0);
            x.wheel();
            x.put(0, 0);
            x.run(1);
            String before = Check.stateBesideFault(x);
            Check.due("read() of " + texts[i], Check.read(x, texts[i]), -1);
            Check.due("fault(0) of " + texts[i], x.fault(0), i + 1);
            Check.same("read() of " + texts[i], Check.stateBesideFault(x), before);
            Check.due("named(e)", x.named('e'), 1);
            Check.due("named(x)", x.named('x'), -1);
            Check.due("run(2)", x.run(2), 1);
            Check.due("tick()", x.tick(), 0);
        }
    }

    /** "There is no wheel then". */
    private static void noWheelThen() {
        for (String text : new String[] {"in a;g=not(a);", "", "in a;"}) {
            GateWheel x = Check.bench("in a;g=not(a);");
            x.wheel();
            x.put(0, 0);
            x.run(0);
            Check.read(x, text);
            Check.due("about(2) behind read()", x.about(2), -1);
            Check.due("about(3) behind read()", x.about(3), -1);
            Check.due("about(4) behind read()", x.about(4), -1);
            Check.due("run(1) behind read()", x.run(1), -1);
            Check.due("put(0, 1) behind read()", x.put(0, 1), false);
            Check.due("on(0) behind read()", x.on(0), -1);
            Check.due("wave(0, 0) behind read()", x.wave(0, 0), -1);
            x.wheel();
            Check.due("about(4) of the new wheel", x.about(4), 0);
            Check.due("wave(0, 0) of the new wheel", x.wave(0, 0), -1);
        }
    }

    /** "The TAPE .. is a CIRCUIT: how many NODES": those of this text alone, of a greater one ahead, or a FAULT. */
    private static void nothingIsLeftOfTheOldOne() {
        GateWheel x = new GateWheel();
        Check.read(x, Check.inputs(60) + ";");
        Check.read(x, "bus b;b<if0(b,b);g=xor(b,b,b,b,b,b)9;reg q(g,b);#");
        Check.due("read() of one", Check.read(x, "in n5;"), 1);
        Check.due("about(0)", x.about(0), 1);
        Check.due("about(1)", x.about(1), 0);
        Check.due("about(5)", x.about(5), 1);
        Check.due("node(1, 0)", x.node(1, 0), -1);
        Check.due("named(n0)", Check.node(x, "n0"), -1);
        Check.due("named(n5)", Check.node(x, "n5"), 0);
        Check.due("named(b)", x.named('b'), -1);
        Check.read(x, "reg q(q);bus b;in a;g=not(a);");
        Check.due("about(1)", x.about(1), 1);
        Check.due("node(1, 1) of a BUS without DRIVERS", x.node(1, 1), 0);
        Check.due("node(0, 3)", x.node(0, 3), 0);
        Check.due("node(3, 1)", x.node(3, 1), 1);
        Check.due("node(3, 2)", x.node(3, 2), 1);
        Check.read(x, "in a,b,c,d;");
        for (int i = 0; i < 4; i++) {
            Check.due("node(" + i + ", 1)", x.node(i, 1), 0);
            Check.due("node(" + i + ", 2)", x.node(i, 2), 0);
            Check.due("node(" + i + ", 3)", x.node(i, 3), 0);
        }
        Check.due("read() of no line", Check.read(x, ""), 0);
        Check.due("node(0, 0)", x.node(0, 0), -1);
    }

    /** "Of the latest read() what 0: its FAULT (0), 1: its place (NONE)". */
    private static void faultOfTheLatestRead() {
        GateWheel x = new GateWheel();
        Check.due("fault(0) without a read()", x.fault(0), 0);
        Check.due("fault(1) without a read()", x.fault(1), -1);
        String[] texts = {"#", "in a;", "in a;in", "", "in a,a;", "in b;", "g=not(z);", "in c;", "g=not(g);", "in d;"};
        int[] faults = {1, 0, 2, 0, 3, 0, 4, 0, 5, 0};
        int[] places = {0, -1, 7, -1, 5, -1, 6, -1, 0, -1};
        for (int i = 0; i < texts.length; i++) {
            Check.read(x, texts[i]);
            Check.due("fault(0) of " + texts[i], x.fault(0), faults[i]);
            Check.due("fault(1) of " + texts[i], x.fault(1), places[i]);
        }
        // What is fed later is not read yet.
        Check.tape(x, "#");
        Check.due("fault(0) behind feed", x.fault(0), 0);
    }

    /** "NONE for another what". */
    private static void faultOfAnotherWhat() {
        for (String text : new String[] {"in a;", "in #"}) {
            GateWheel x = new GateWheel();
            Check.read(x, text);
            for (int what : new int[] {-1, 2, 3, 256, LEAST, GREATEST}) {
                Check.due("fault(" + what + ")", x.fault(what), -1);
            }
        }
    }

    /** "by the bytes of a long, the highest first, 0s left out". */
    private static void zerosLeftOut() {
        GateWheel x = Check.bench("in a,ab,abcdefgh,ba,b;");
        for (int shift = 0; shift < 64; shift += 8) {
            Check.due("named(a << " + shift + ")", x.named(0x61L << shift), 0);
            Check.due("named(b << " + shift + ")", x.named(0x62L << shift), 4);
        }
        for (int high = 8; high < 64; high += 8) {
            for (int low = 0; low < high; low += 8) {
                Check.due("named(ab), apart", x.named(0x61L << high | 0x62L << low), 1);
                Check.due("named(ba), apart", x.named(0x62L << high | 0x61L << low), 3);
            }
        }
        Check.due("named(abcdefgh)", x.named(0x6162636465666768L), 2);
    }

    /** "The NODE with this NAME ..; NONE". */
    private static void noSuchName() {
        GateWheel x = Check.bench("in a,abcdefgh,a0;bus in0;");
        long[] names = {
            0, 0x41, 0x62, 0x6161, 0x6162636465666700L, 0x6162636465666769L, 0x62636465666768L, 0x616eL, 0x696eL,
            0x2061L, 0x6120L, 0xe1L, 0x1000061L, -1, Long.MIN_VALUE, Long.MAX_VALUE, 0x30L, 0x3061L
        };
        for (long name : names) {
            Check.due("named(" + Long.toHexString(name) + ")", x.named(name), -1);
        }
        Check.due("named(a0)", x.named(0x6130), 2);
        Check.due("named(in0)", x.named(0x696e30), 3);
    }

    /** "1: how many NODES are in its ( ) .. (0 of an INPUT)". */
    private static void nodesInParentheses() {
        for (int n = 2; n <= 6; n++) {
            Check.due("node(1, 1)", good("in a;g=nor(" + names(n) + ");", 2).node(1, 1), n);
        }
        GateWheel x = good("in a;g=not(a);h=mux(a,g,a);reg q(a);reg r(a,h);", 5);
        int[] want = {0, 1, 3, 1, 2};
        for (int i = 0; i < want.length; i++) {
            Check.due("node(" + i + ", 1)", x.node(i, 1), want[i]);
        }
    }

    /** "1: .. DRIVERS of a BUS": none to six. */
    private static void driversOfABus() {
        for (int n = 0; n <= 6; n++) {
            GateWheel x = good("b<if0(a,a);".repeat(n) + "bus b,c;in a;", 3);
            Check.due("node(0, 1)", x.node(0, 1), n);
            Check.due("node(1, 1)", x.node(1, 1), 0);
        }
    }

    /** "2: DELAY (0 if it is no GATE)". */
    private static void delayOfNoGate() {
        GateWheel x = good("g=not(a)9;in a;bus b;reg q(a);h=not(a);", 5);
        int[] want = {9, 0, 0, 0, 1};
        for (int i = 0; i < want.length; i++) {
            Check.due("node(" + i + ", 2)", x.node(i, 2), want[i]);
        }
    }

    /** "3: its LEVEL: 0 if it hangs on none, else 1 more than the greatest of those that it hangs on". */
    private static void levels() {
        GateWheel x = good("in a;bus b,c;reg q(k,k);g=not(a);h=and(a,g);k=and(h,a,g);c<if1(a,a);c<if0(a,k);m=buf(c);"
            + "n=buf(q);p=buf(b);", 10);
        String[] names = {"a", "b", "q", "g", "h", "k", "c", "m", "n", "p"};
        int[] want = {0, 0, 0, 1, 2, 3, 4, 5, 1, 1};
        for (int i = 0; i < names.length; i++) {
            Check.due("LEVEL of " + names[i], x.node(Check.node(x, names[i]), 3), want[i]);
        }
        // Sixty, told backwards and forwards.
        StringBuilder back = new StringBuilder();
        StringBuilder forth = new StringBuilder("in n0;");
        for (int i = 59; i > 0; i--) {
            back.append("n").append(i).append("=buf(n").append(i - 1).append(");");
            forth.append("n").append(60 - i).append("=buf(n").append(59 - i).append(");");
        }
        for (String text : new String[] {back + "in n0;", forth.toString()}) {
            GateWheel y = good(text, 60);
            for (int i = 0; i < 60; i++) {
                Check.due("LEVEL of n" + i, y.node(Check.node(y, "n" + i), 3), i);
            }
        }
    }

    /** "NONE if there is none such": no such NODE, no such what. */
    private static void noSuchNode() {
        GateWheel x = good("in a;bus b;g=not(a);reg q(a);", 4);
        for (int what = 0; what <= 3; what++) {
            for (int node : new int[] {-1, 4, 5, 59, 60, 61, LEAST, GREATEST}) {
                Check.due("node(" + node + ", " + what + ")", x.node(node, what), -1);
            }
        }
        for (int node = 0; node < 4; node++) {
            for (int what : new int[] {-1, 4, 5, 256, LEAST, GREATEST}) {
                Check.due("node(" + node + ", " + what + ")", x.node(node, what), -1);
            }
        }
        GateWheel full = good(Check.inputs(60) + ";", 60);
        Check.due("node(59, 0)", full.node(59, 0), 0);
        Check.due("node(60, 0)", full.node(60, 0), -1);
    }
}
