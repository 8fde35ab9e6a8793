import java.io.IOException;
import java.lang.reflect.InvocationTargetException;
import java.lang.reflect.Method;
import java.lang.reflect.Modifier;
import java.nio.file.Files;
import java.nio.file.Path;
import java.util.ArrayList;
import java.util.Arrays;
import java.util.List;
import java.util.Set;
import java.util.TreeSet;
import java.util.regex.Matcher;
import java.util.regex.Pattern;

/** README.md tells what is so: its examples are made as they stand there, and its table is the face. */
public final class ReadmeTest {
    private static final Pattern NEW = Pattern.compile("(RateFitter )?x = new RateFitter\\(\\);");
    private static final Pattern CALL = Pattern.compile("x\\.(\\w+)\\(([-\\d, ]*)\\);\\s+// (-?\\d+|throws (\\w+))");
    private static final Pattern CALL_OF_TABLE = Pattern.compile("\\| `(int|long) (\\w+)\\(([\\w, ]*)\\)` \\|(.*)\\|(.*)\\|(.*)\\|");
    private static final Pattern TEST_OF_TABLE = Pattern.compile("`(\\w+Test)`");

    private final Set<String> shown = new TreeSet<>();
    private RateFitter fitter = new RateFitter();

    public static void main(String[] args) throws IOException, ReflectiveOperationException {
        List<String> lines = Files.readAllLines(Path.of("README.md"));
        ReadmeTest test = new ReadmeTest();
        boolean example = false;
        for (String line : lines) {
            if (line.startsWith("```")) {
                example = line.equals("```java");
            } else if (example) {
                test.exampleLine(line);
            }
        }
        Check.same("the calls of the examples", test.shown.toString(), namesOfFace().toString());
        Check.same("the table of calls", String.join("\n", tableOfCalls(lines)), String.join("\n", face()));
        Check.same("the table of tests", testsTold(lines).toString(), testsThere().toString());
        Check.end();
    }

    private void exampleLine(String line) throws ReflectiveOperationException {
        if (NEW.matcher(line).matches()) {
            fitter = new RateFitter();
            return;
        }
        Matcher call = CALL.matcher(line);
        if (!call.matches()) {
            Check.same("a line of an example", line, "a call with its answer");
            return;
        }
        shown.add(call.group(1));
        String due = call.group(4) == null ? call.group(3) : call.group(4);
        Check.same(line, outcome(call.group(1), numbers(call.group(2))), due);
    }

    private static Object[] numbers(String text) {
        List<Object> numbers = new ArrayList<>();
        for (String number : text.isEmpty() ? new String[0] : text.split(", ")) {
            numbers.add(Integer.valueOf(number));
        }
        return numbers.toArray();
    }

    private String outcome(String name, Object[] arguments) throws ReflectiveOperationException {
        Class<?>[] types = new Class<?>[arguments.length];
        Arrays.fill(types, int.class);
        try {
            return RateFitter.class.getMethod(name, types).invoke(fitter, arguments).toString();
        } catch (InvocationTargetException thrown) {
            return thrown.getCause().getClass().getSimpleName();
        }
    }

    // ---- the tables

    private static List<Method> methodsOfFace() {
        List<Method> methods = new ArrayList<>();
        for (Method method : RateFitter.class.getDeclaredMethods()) {
            if (Modifier.isPublic(method.getModifiers())) {
                methods.add(method);
            }
        }
        return methods;
    }

    private static Set<String> namesOfFace() {
        Set<String> names = new TreeSet<>();
        for (Method method : methodsOfFace()) {
            names.add(method.getName());
        }
        return names;
    }

    /** Each call as its type, its name, how many parameters it has, and what it throws, in order. */
    private static Set<String> face() {
        Set<String> calls = new TreeSet<>();
        for (Method method : methodsOfFace()) {
            StringBuilder call = new StringBuilder(method.getName());
            call.append(' ').append(method.getReturnType()).append(' ').append(method.getParameterCount());
            for (Class<?> thrown : method.getExceptionTypes()) {
                call.append(' ').append(thrown.getSimpleName());
            }
            calls.add(call.toString());
        }
        return calls;
    }

    private static Set<String> tableOfCalls(List<String> lines) {
        Set<String> calls = new TreeSet<>();
        for (String line : lines) {
            Matcher row = CALL_OF_TABLE.matcher(line);
            if (row.matches()) {
                int parameters = row.group(3).isEmpty() ? 0 : row.group(3).split(", ").length;
                StringBuilder call = new StringBuilder(row.group(2));
                call.append(' ').append(row.group(1)).append(' ').append(parameters);
                Matcher thrown = Pattern.compile("\\w+Exception").matcher(row.group(6));
                while (thrown.find()) {
                    call.append(' ').append(thrown.group());
                }
                calls.add(call.toString());
            }
        }
        return calls;
    }

    private static Set<String> testsTold(List<String> lines) {
        Set<String> tests = new TreeSet<>();
        for (String line : lines) {
            Matcher test = TEST_OF_TABLE.matcher(line.startsWith("| `") ? line.split("\\|")[1] : "");
            while (test.find()) {
                tests.add(test.group(1));
            }
        }
        return tests;
    }

    private static Set<String> testsThere() throws IOException {
        Set<String> tests = new TreeSet<>();
        try (var files = Files.list(Path.of("src/test/java"))) {
            files.map(file -> file.getFileName().toString())
                    .filter(name -> name.endsWith("Test.java"))
                    .forEach(name -> tests.add(name.substring(0, name.length() - ".java".length())));
        }
        return tests;
    }
}
