import java.io.IOException;
import java.lang.reflect.Method;
import java.lang.reflect.Modifier;
import java.nio.file.Files;
import java.nio.file.Path;
import java.util.Arrays;
import java.util.Set;
import java.util.TreeSet;
import java.util.regex.Matcher;
import java.util.regex.Pattern;

/** The example in README.md answers what README.md says, and no call of the face is left out there. */
public final class ReadmeTest {
    private static final Path README = Path.of("README.md");
    private static final Pattern CALL = Pattern.compile("x\\.(\\w+)\\(([^\\n]*)\\); *// (-?\\d+).*");

    public static void main(String[] args) throws IOException, ReflectiveOperationException {
        String readme = Files.readString(README);
        example(readme);
        everyCall(readme);
        Check.finish();
    }

    private static void example(String readme) throws ReflectiveOperationException {
        PricedUndo x = new PricedUndo();
        int answers = 0;
        for (String line : readme.split("\n")) {
            if (line.startsWith("x.")) {
                Matcher call = CALL.matcher(line);
                Check.due("README.md tells an answer in '" + line + "'", call.matches() ? 1 : 0, 1);
                if (call.matches()) {
                    Check.due(line, ask(x, call.group(1), call.group(2)), Integer.parseInt(call.group(3)));
                    answers++;
                }
            }
        }
        Check.due("README.md has an example", answers > 0 ? 1 : 0, 1);
    }

    private static int ask(PricedUndo x, String name, String arguments) throws ReflectiveOperationException {
        Object[] values = arguments.isEmpty() ? new Object[0]
            : Arrays.stream(arguments.split(", ")).map(ReadmeTest::value).toArray();
        Class<?>[] types = new Class<?>[values.length];
        Arrays.fill(types, int.class);
        return (Integer) PricedUndo.class.getMethod(name, types).invoke(x, values);
    }

    private static Object value(String argument) {
        return argument.startsWith("'") ? argument.charAt(1) : Integer.parseInt(argument);
    }

    private static void everyCall(String readme) {
        Set<String> missing = new TreeSet<>();
        for (Method method : PricedUndo.class.getDeclaredMethods()) {
            boolean open = Modifier.isPublic(method.getModifiers());
            if (open && !readme.contains("`" + method.getName() + "`")) {
                missing.add(method.getName());
            }
        }
        Check.due("calls that README.md leaves out", missing.toString(), "[]");
    }
}
