import java.io.IOException;
import java.lang.reflect.Method;
import java.lang.reflect.Modifier;
import java.nio.file.Files;
import java.nio.file.Path;
import java.util.regex.Matcher;
import java.util.regex.Pattern;

/** The example of README.md: each call answers what stands behind it. */
public final class ReadmeTest {
    public static void main(String[] args) throws IOException, ReflectiveOperationException {
        String text = Files.readString(Path.of("README.md"));
        Matcher m = Pattern.compile("(?m)^x\\.(\\w+)\\((.*?)\\); +// (-?\\w+)").matcher(text);
        GateWheel x = new GateWheel();
        int calls = 0;
        while (m.find()) {
            calls++;
            String call = m.group(1) + "(" + m.group(2) + ")";
            Check.same("README.md: " + call, String.valueOf(call(x, m.group(1), m.group(2))), m.group(3));
        }
        Check.due("README.md shows calls", calls > 10, true);
        for (Method method : GateWheel.class.getDeclaredMethods()) {
            boolean isFace = Modifier.isPublic(method.getModifiers());
            boolean isTold = text.contains("`" + method.getName() + "`");
            Check.due("README.md tells of " + method.getName(), isTold || !isFace, true);
        }
        Check.finish();
    }

    private static Object call(GateWheel x, String name, String list) throws ReflectiveOperationException {
        String[] numbers = list.isEmpty() ? new String[0] : list.split(", ");
        for (Method method : GateWheel.class.getMethods()) {
            if (method.getName().equals(name)) {
                Object[] arguments = new Object[numbers.length];
                for (int i = 0; i < numbers.length; i++) {
                    long n = Long.decode(numbers[i]);
                    boolean isLong = method.getParameterTypes()[i] == long.class;
                    arguments[i] = isLong ? (Object) n : (Object) (int) n;
                }
                return method.invoke(x, arguments);
            }
        }
        return "no such call";
    }
}
