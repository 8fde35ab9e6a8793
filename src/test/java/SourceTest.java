import java.io.IOException;
import java.lang.reflect.Field;
import java.lang.reflect.Method;
import java.lang.reflect.Modifier;
import java.nio.file.Files;
import java.nio.file.Path;
import java.util.ArrayList;
import java.util.List;
import java.util.Set;
import java.util.regex.Matcher;
import java.util.regex.Pattern;

/** What the document and LANGUAGE.md say of the source itself, as far as its text tells it. */
public final class SourceTest {
    private static final Pattern SECTION = Pattern.compile(" {4}// (---- .*)");
    private static final Pattern PUBLIC = Pattern.compile(" {4}public .*?(\\w+)\\(.*");
    private static final Pattern METHOD = Pattern.compile(" {4}(?:public|private) [^=;]*\\(.*");
    private static final Pattern NEW = Pattern.compile("\\bnew\\b");
    private static final Pattern NEW_OF_FIELD = Pattern.compile(" {4}private final \\S+ \\w+ = new \\w+(\\[\\w+\\])+;");
    private static final Pattern NEW_OF_THROW = Pattern.compile(" +throw new (\\w+)\\(\"[a-z ,]+\"\\);");
    private static final Set<String> EXCEPTIONS =
            Set.of("IllegalArgumentException", "IllegalStateException", "IndexOutOfBoundsException");
    private static final String[] NOT_THERE = {
        "package ", "->", "::", "synchronized", "assert", "finally", "try", "catch", "static {", "Exact", "float",
        "double", "System", "Thread", "Random", "Object", "instanceof", "hashCode", "toString", "while (true)"
    };
    private static final String[] FACE = {
        "RateFitter",
        "---- rows and settings", "add", "withdraw", "setOld", "setRules", "setFactor",
        "---- fitting", "pass", "settle", "smooth", "spread",
        "---- what there is; nothing from here on changes anything",
        "rows", "base", "factor", "fitted", "toldSum", "fittedSum", "worst", "premium", "capped", "lost", "rankedAt"
    };

    public static void main(String[] args) throws IOException {
        List<String> lines = Files.readAllLines(Path.of("src/main/java/RateFitter.java"));
        theFaceStandsInItsSections(lines);
        whatTheLanguageLeavesOutIsNotThere(lines);
        nothingIsMadeByACall(lines);
        methodsAreShort(lines);
        parametersAndFieldsAreFew();
        Check.end();
    }

    // "Ahead of the calls .. the interface says: ---- .."
    private static void theFaceStandsInItsSections(List<String> lines) {
        List<String> face = new ArrayList<>();
        for (String line : lines) {
            Matcher section = SECTION.matcher(line);
            Matcher call = PUBLIC.matcher(line);
            if (section.matches()) {
                face.add(section.group(1));
            } else if (call.matches()) {
                face.add(call.group(1));
            }
        }
        // private methods have sections of their own behind the face
        List<String> ahead = face.subList(0, Math.min(FACE.length, face.size()));
        Check.same("the face, section by section", String.join("\n", ahead), String.join("\n", FACE));
    }

    // rules 1, 2, 3, 4, 5, 6 and 13
    private static void whatTheLanguageLeavesOutIsNotThere(List<String> lines) {
        int number = 0;
        for (String line : lines) {
            number++;
            for (String text : NOT_THERE) {
                if (line.contains(text)) {
                    Check.same("line " + number, line, "without " + text);
                }
            }
            if (line.startsWith("import ")) {
                Check.same("line " + number, line, "import java.util.Arrays;");
            }
            Check.equal("signs beyond 126 in line " + number, line.chars().filter(sign -> sign > 126).count(), 0);
        }
    }

    // rules 6 and 12: the rows are made with the object, and a call makes its exception alone
    private static void nothingIsMadeByACall(List<String> lines) {
        int number = 0;
        for (String line : lines) {
            number++;
            Matcher thrown = NEW_OF_THROW.matcher(line);
            boolean good = NEW_OF_FIELD.matcher(line).matches() || thrown.matches() && EXCEPTIONS.contains(thrown.group(1));
            if (NEW.matcher(line).find() && !good) {
                Check.same("line " + number, line, "a field's array or a throw");
            }
        }
    }

    // rule 11
    private static void methodsAreShort(List<String> lines) {
        int start = 0;
        int methods = 0;
        for (int number = 0; number < lines.size(); number++) {
            if (METHOD.matcher(lines.get(number)).matches()) {
                start = number;
                methods++;
            } else if (lines.get(number).equals("    }") && number - start >= 60) {
                Check.same("the method of line " + (start + 1), (number - start + 1) + " lines", "60 at most");
            }
        }
        Check.equal("methods are found", methods >= 21 ? 1 : 0, 1);
    }

    // rules 1, 5 and 11
    private static void parametersAndFieldsAreFew() {
        for (Method method : RateFitter.class.getDeclaredMethods()) {
            Check.equal(method.getName() + " has at most 7 parameters", Math.max(method.getParameterCount(), 7), 7);
        }
        int ofObjects = 0;
        for (Field field : RateFitter.class.getDeclaredFields()) {
            if (Modifier.isStatic(field.getModifiers())) {
                Check.equal(field.getName() + " is final", Modifier.isFinal(field.getModifiers()) ? 1 : 0, 1);
            } else {
                ofObjects++;
            }
        }
        Check.equal("at most 20 fields", Math.max(ofObjects, 20), 20);
    }
}
