import java.io.IOException;
import java.lang.reflect.Method;
import java.lang.reflect.Modifier;
import java.nio.file.Files;
import java.nio.file.Path;
import java.util.List;
import java.util.regex.Matcher;
import java.util.regex.Pattern;

/** README.md tells every call of the face, and its example answers as it says. Run where README.md is. */
public final class ReadmeTests {
    private static final Pattern EXAMPLE = Pattern.compile("press\\.(\\w+)\\(([^)]*)\\);\\s*// (-?\\w+).*");
    private static final Pattern TOLD = Pattern.compile("\\| `(\\w+)\\(([^)]*)\\)` \\|.*");

    private static int wrong = 0;

    public static void main(String[] args) throws IOException, ReflectiveOperationException {
        List<String> lines = Files.readAllLines(Path.of("README.md"));
        example(lines);
        for (Method method : DotPress.class.getDeclaredMethods()) {
            if (Modifier.isPublic(method.getModifiers())) {
                told(lines, method);
            }
        }
        System.out.println(wrong == 0 ? "README.md is as the class is" : wrong + " things in README.md are wrong");
        if (wrong != 0) {
            System.exit(1);
        }
    }

    private static void hold(boolean is, String what) {
        if (!is) {
            wrong++;
            System.out.println(what);
        }
    }

    private static void example(List<String> lines) throws ReflectiveOperationException {
        DotPress press = new DotPress();
        int calls = 0;
        for (String line : lines) {
            Matcher row = EXAMPLE.matcher(line);
            if (row.matches()) {
                calls++;
                String got = answer(press, methodOf(row.group(1)), partsOf(row.group(2)));
                hold(got.equals(row.group(3)), line + " answered " + got);
            }
        }
        hold(calls > 0, "there is no example");
    }

    private static String answer(DotPress press, Method method, String[] texts) throws ReflectiveOperationException {
        Object[] values = new Object[texts.length];
        for (int i = 0; i < texts.length; i++) {
            boolean truth = method.getParameterTypes()[i] == boolean.class;
            values[i] = truth ? (Object) Boolean.valueOf(texts[i]) : Integer.valueOf(texts[i]);
        }
        return String.valueOf(method.invoke(press, values));
    }

    private static void told(List<String> lines, Method method) {
        int found = 0;
        for (String line : lines) {
            Matcher row = TOLD.matcher(line);
            if (row.matches() && row.group(1).equals(method.getName())) {
                found++;
                hold(partsOf(row.group(2)).length == method.getParameterCount(), line + " has other parameters");
            }
        }
        hold(found == 1, method.getName() + " is told " + found + " times");
    }

    private static String[] partsOf(String list) {
        return list.isEmpty() ? new String[0] : list.split(", ");
    }

    private static Method methodOf(String name) {
        for (Method method : DotPress.class.getMethods()) {
            if (method.getName().equals(name)) {
                return method;
            }
        }
        throw new IllegalStateException("README.md has a call that is not there: " + name);
    }
}
