import java.io.IOException;
import java.lang.reflect.Constructor;
import java.lang.reflect.Field;
import java.lang.reflect.Method;
import java.lang.reflect.Modifier;
import java.nio.file.Files;
import java.nio.file.Path;
import java.util.ArrayList;
import java.util.Arrays;
import java.util.List;
import java.util.Set;
import java.util.TreeSet;
import java.util.regex.Matcher;
import java.util.regex.Pattern;

/** The public face of the document, and those rules of LANGUAGE.md that can be seen from outside. */
public final class FaceTest {
    private static final String[] FACE = {"appendCharacter/1", "clearClip/0", "begin/0", "insert/1", "erase/2",
        "setCursor/1", "setPrices/2", "character/1", "author/1", "count/1", "edit/2", "commute/2", "closure/1", "price/1",
        "takeBack/1", "bringBack/1", "carried/2", "loose/0", "opening/1", "run/2", "appendScript/1", "clearScript/0",
        "runScript/0", "cheapest/2", "cheapestPrice/2", "clearing/2", "save/1", "restore/1", "difference/1"};
    private static final Path SOURCE = Path.of("src/main/java/PricedUndo.java");

    public static void main(String[] args) throws IOException {
        constants();
        methods();
        fields();
        sizes();
        methodLengths();
        forbiddenWords();
        extremeArguments();
        Check.finish();
    }

    private static void constants() {
        Check.due("INVALID_ARGUMENT", PricedUndo.INVALID_ARGUMENT, -1);
        Check.due("ILLEGAL_STATE", PricedUndo.ILLEGAL_STATE, -2);
        Check.due("CAPACITY_EXCEEDED", PricedUndo.CAPACITY_EXCEEDED, -3);
        Check.due("NONE", PricedUndo.NONE, -9);
    }

    private static void methods() {
        Set<String> due = new TreeSet<>(Set.of(FACE));
        Set<String> names = publicNames();
        Set<String> found = new TreeSet<>();
        for (Method method : PricedUndo.class.getDeclaredMethods()) {
            if (Modifier.isPrivate(method.getModifiers())) {
                Check.due("private " + method.getName() + " bears a public name", names.contains(method.getName()) ? 1 : 0, 0);
                continue;
            }
            found.add(method.getName() + "/" + method.getParameterCount());
            Check.due(method + " is public", Modifier.isPublic(method.getModifiers()) ? 1 : 0, 1);
            Check.due(method + " answers", method.getReturnType().getName(), "int");
        }
        Check.due("the face", found.toString(), due.toString());
        Constructor<?>[] constructors = PricedUndo.class.getDeclaredConstructors();
        Check.due("constructors", constructors.length, 1);
        Check.due("parameters of the constructor", constructors[0].getParameterCount(), 0);
        Check.due("final", Modifier.isFinal(PricedUndo.class.getModifiers()) ? 1 : 0, 1);
    }

    private static void fields() {
        Set<String> found = new TreeSet<>();
        for (Field field : PricedUndo.class.getDeclaredFields()) {
            if (!Modifier.isPrivate(field.getModifiers())) {
                found.add(field.getName());
            }
        }
        Check.due("open fields", found.toString(), "[CAPACITY_EXCEEDED, ILLEGAL_STATE, INVALID_ARGUMENT, NONE]");
        for (Class<?> inside : PricedUndo.class.getDeclaredClasses()) {
            Check.due(inside + " is static", Modifier.isStatic(inside.getModifiers()) ? 1 : 0, 1);
        }
        for (Class<?> each : allClasses()) {
            for (Field field : each.getDeclaredFields()) {
                boolean changing = Modifier.isStatic(field.getModifiers()) && !Modifier.isFinal(field.getModifiers());
                Check.due(field + " is a changing static field", changing ? 1 : 0, 0);
            }
        }
    }

    private static List<Class<?>> allClasses() {
        List<Class<?>> all = new ArrayList<>(List.of(PricedUndo.class.getDeclaredClasses()));
        all.add(PricedUndo.class);
        return all;
    }

    /** Rule 11: the numbers of classes, of a class's fields and of a method's parameters; rule 1: the names inside. */
    private static void sizes() {
        Check.due("at most twelve classes", allClasses().size() <= 12 ? 1 : 0, 1);
        for (Class<?> each : allClasses()) {
            long fields = Arrays.stream(each.getDeclaredFields()).filter(f -> !Modifier.isStatic(f.getModifiers())).count();
            Check.due(each + " has at most twenty fields", fields <= 20 ? 1 : 0, 1);
            for (Method method : each.getDeclaredMethods()) {
                Check.due(method + " takes at most seven", method.getParameterCount() <= 7 ? 1 : 0, 1);
                boolean taken = each != PricedUndo.class && publicNames().contains(method.getName());
                Check.due(method + " bears a public name", taken ? 1 : 0, 0);
            }
        }
    }

    private static Set<String> publicNames() {
        Set<String> names = new TreeSet<>();
        for (String entry : FACE) {
            names.add(entry.substring(0, entry.indexOf('/')));
        }
        return names;
    }

    /** Rule 11: methods stay short. A method begins at a line with one or two indents that ends with ") {". */
    private static void methodLengths() throws IOException {
        Matcher method = Pattern.compile("(?ms)^((?: {4}){1,2})(?=\\S)(?!class)([^\\n;]*\\) \\{)\\n.*?^\\1\\}$")
            .matcher(Files.readString(SOURCE));
        int found = 0;
        while (method.find()) {
            found++;
            Check.due(method.group(2) + " is short", method.group().lines().count() <= 60 ? 1 : 0, 1);
        }
        Check.due("methods are found", found > FACE.length ? 1 : 0, 1);
    }

    private static void forbiddenWords() throws IOException {
        String source = Files.readString(SOURCE).replaceAll("(?s)/\\*.*?\\*/", "").replaceAll("//[^\n]*", "");
        Pattern forbidden = Pattern.compile("\\b(throw|throws|try|catch|synchronized|assert|import|package|protected|native"
            + "|volatile|transient|strictfp|hashCode|toString|System\\.(?!arraycopy)\\w+|\\w+Exact)\\b|->|::");
        Matcher matcher = forbidden.matcher(source);
        while (matcher.find()) {
            Check.due("the source holds '" + matcher.group() + "'", 1, 0);
        }
        Check.due("the source is plain ASCII", source.chars().allMatch(c -> c == '\n' || c >= 32 && c < 127) ? 1 : 0, 1);
    }

    /** Every call with every mixture of odd arguments, in an empty and in a full state: an exception ends the test. */
    private static void extremeArguments() {
        int[] odd = {Integer.MIN_VALUE, Integer.MIN_VALUE + 1, -65536, -1, 0, 1, 2, 15, 16, 31, 32, 33, 59, 60, 61, 65535,
            65536, Integer.MAX_VALUE - 1, Integer.MAX_VALUE};
        for (int first : odd) {
            for (int second : odd) {
                askAll(new PricedUndo(), first, second);
                askAll(full(), first, second);
            }
        }
    }

    private static PricedUndo full() {
        PricedUndo x = Check.begun(Check.letters(60));
        x.erase(0, 60);
        for (int i = 0; i < 7; i++) {
            Check.insert(x, 4 * i, Check.letters(8));
        }
        x.erase(0, 50);
        for (int i = 0; i < 5; i++) {
            Check.insert(x, 3 * i, Check.letters(8));
        }
        Check.insert(x, 0, "wxyz");
        x.erase(5, 9);
        Check.due("all characters", x.count(1), 160);
        Check.due("edits", x.count(2), 16);
        return x;
    }

    private static void askAll(PricedUndo x, int first, int second) {
        x.save(0);
        for (String entry : FACE) {
            String name = entry.substring(0, entry.indexOf('/'));
            int[] arguments = {first, second};
            String thrown = whatIsThrown(x, name, Arrays.copyOf(arguments, entry.charAt(entry.length() - 1) - '0'));
            Check.due(name + "(" + first + ", " + second + ") threw", thrown, "nothing");
            x.restore(0);
        }
    }

    private static String whatIsThrown(PricedUndo x, String name, int[] arguments) {
        try {
            switch (arguments.length) {
                case 0 -> PricedUndo.class.getMethod(name).invoke(x);
                case 1 -> PricedUndo.class.getMethod(name, int.class).invoke(x, arguments[0]);
                default -> PricedUndo.class.getMethod(name, int.class, int.class).invoke(x, arguments[0], arguments[1]);
            }
        } catch (ReflectiveOperationException wrapped) {
            return String.valueOf(wrapped.getCause());
        }
        return "nothing";
    }
}
