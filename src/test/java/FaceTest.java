import java.io.IOException;
import java.lang.management.ManagementFactory;
import java.lang.reflect.Constructor;
import java.lang.reflect.Field;
import java.lang.reflect.Member;
import java.lang.reflect.Method;
import java.lang.reflect.Modifier;
import java.nio.file.Files;
import java.nio.file.Path;
import java.util.Arrays;
import java.util.Set;
import java.util.TreeSet;
import java.util.regex.Matcher;
import java.util.regex.Pattern;

/** The public face, the rules of LANGUAGE.md that can be seen in the text, and what calls make. */
public final class FaceTest {
    private static final Set<String> FACE = new TreeSet<>(Arrays.asList(
        "int feed(int,int,int,int,int)", "int end(int)", "int read()", "int fault(int)", "int named(long)",
        "int node(int,int)", "boolean set(int,int)", "boolean load(int,int)", "int value(int)", "int tick()",
        "int worlds()", "int legal()", "int sharp(int)", "int gainsaid()", "int flicker(int,int)", "boolean wheel()",
        "boolean put(int,int)", "int run(int)", "int on(int)", "int wave(int,int)", "int about(int)"));

    public static void main(String[] args) throws IOException {
        face();
        text(Files.readString(Path.of("src/main/java/GateWheel.java")));
        makesNothing();
        endsAtOnce();
        Check.finish();
    }

    private static boolean isHidden(Member member) {
        return Modifier.isPrivate(member.getModifiers()) || member.isSynthetic();
    }

    private static void face() {
        Class<?> c = GateWheel.class;
        Check.due("public final", c.getModifiers(), Modifier.PUBLIC | Modifier.FINAL);
        Set<String> shown = new TreeSet<>();
        Set<String> hidden = new TreeSet<>();
        for (Method m : c.getDeclaredMethods()) {
            String all = m.getReturnType() + " " + m.getName() + Arrays.toString(m.getParameterTypes());
            if (isHidden(m)) {
                hidden.add(m.getName());
            } else {
                shown.add(all.replace("[", "(").replace("]", ")").replace(", ", ","));
                Check.due(all + " is public alone", m.getModifiers(), Modifier.PUBLIC);
            }
        }
        Check.due("the face is that of the document: " + shown, shown.equals(FACE), true);
        for (Method m : c.getMethods()) {
            Check.due("a private " + m.getName(), hidden.contains(m.getName()), false);
        }
        for (Field f : c.getDeclaredFields()) {
            Check.due("shown: " + f, !isHidden(f), f.getName().equals("NONE"));
        }
        for (Constructor<?> k : c.getDeclaredConstructors()) {
            Check.due(k + " is public", k.getModifiers(), Modifier.PUBLIC);
            Check.due(k + " takes nothing", k.getParameterCount(), 0);
        }
        for (Class<?> inside : c.getDeclaredClasses()) {
            Check.due(inside + " is static", Modifier.isStatic(inside.getModifiers()), true);
            Check.due(inside + " is public", Modifier.isPublic(inside.getModifiers()), false);
        }
        Check.due("at most twelve classes", c.getDeclaredClasses().length < 12, true);
    }

    private static void text(String source) {
        String code = source.replaceAll("(?s)/\\*.*?\\*/", "").replaceAll("//.*", "");
        Matcher m = Pattern.compile("\\b(throw|throws|try|catch|synchronized|assert|import|package|lambda|Object)\\b|->|::")
            .matcher(code);
        while (m.find()) {
            Check.due("'" + m.group() + "' in the text", true, false);
        }
        Matcher method = Pattern.compile("(?m)^( {4}| {8})(?! ).*\\) \\{\n(?:\\1 .*\n|\n)*\\1\\}").matcher(code);
        int methods = 0;
        while (method.find()) {
            methods++;
            Check.due("at most sixty lines: " + method.group(), method.group().split("\n").length <= 60, true);
        }
        Check.due("methods are seen", methods > 80, true);
    }

    /** Rows are made in the constructor: calls may be many, the room is one. */
    private static void makesNothing() {
        com.sun.management.ThreadMXBean threads =
            (com.sun.management.ThreadMXBean) ManagementFactory.getThreadMXBean();
        long id = Thread.currentThread().getId();
        long before = threads.getThreadAllocatedBytes(id);
        GateWheel x = new GateWheel();
        long made = threads.getThreadAllocatedBytes(id) - before;
        Check.due("a new object takes at most 60 KB, not " + made, made < 60_000, true);
        callAll(x);
        before = threads.getThreadAllocatedBytes(id);
        for (int i = 0; i < 20; i++) {
            callAll(x);
        }
        long more = threads.getThreadAllocatedBytes(id) - before;
        Check.due("calls make at most 10 KB, not " + more, more < 10_000, true);
    }

    private static void callAll(GateWheel x) {
        // "in a,b;c=and(a,b)2; "
        x.feed(0x696e2061, 0x2c623b63, 0x3d616e64, 0x28612c62, 0x29323b20);
        x.read();
        x.named('a');
        x.node(2, 3);
        x.set(0, 1);
        x.load(0, 1);
        x.value(2);
        x.tick();
        x.worlds();
        x.legal();
        x.sharp(2);
        x.gainsaid();
        x.flicker(0, 0);
        x.wheel();
        x.put(0, 0);
        x.run(1000);
        x.on(2);
        x.wave(2, 0);
        x.about(4);
        x.feed(0, 0, 0, 0, 0);
        x.read();
        x.fault(1);
    }

    /** The dearest calls on the greatest CIRCUIT, 512 of each. */
    private static void endsAtOnce() {
        StringBuilder text = new StringBuilder("in n0,n1,n2,n3,n4,n5,n6,n7,n8,n9,n10,n11;");
        for (int i = 12; i < 60; i++) {
            text.append("n").append(i).append("=xor(");
            for (int j = 1; j <= 6; j++) {
                text.append(j == 1 ? "" : ",").append("n").append(i - j);
            }
            text.append(")9;");
        }
        GateWheel x = Check.bench(text.toString());
        Check.due("a full CIRCUIT", x.about(0), 60);
        for (int i = 0; i < 512; i++) {
            x.set(0, 2 + (i & 1));
            Check.due("legal()", x.legal(), 4096);
        }
        for (int i = 0; i < 12; i++) {
            x.set(i, 0);
        }
        x.wheel();
        for (int i = 0; i < 512; i++) {
            x.put(i % 12, i / 12 & 1);
            x.run(1000);
            Check.due("about(3)", x.about(3), 1);
        }
        Check.due("about(2)", x.about(2), 512_000);
    }
}
