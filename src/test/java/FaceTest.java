import java.lang.reflect.Constructor;
import java.lang.reflect.Field;
import java.lang.reflect.Method;
import java.lang.reflect.Modifier;
import java.util.Arrays;
import java.util.Set;
import java.util.TreeSet;

/** The public face of the document, and nothing beside it. */
public final class FaceTest {
    private static final String ROW = "IndexOutOfBoundsException";
    private static final String ARGUMENT = "IllegalArgumentException";
    private static final String STATE = "IllegalStateException";

    public static void main(String[] args) {
        Check.equal("the class is public and final", RateFitter.class.getModifiers(), Modifier.PUBLIC | Modifier.FINAL);
        Set<String> face = new TreeSet<>();
        Set<String> publicNames = new TreeSet<>();
        for (Method method : RateFitter.class.getDeclaredMethods()) {
            if (!Modifier.isPrivate(method.getModifiers())) {
                face.add(told(method));
                publicNames.add(method.getName());
            }
        }
        Check.same("the methods", String.join("\n", face), String.join("\n", due()));
        for (Method method : RateFitter.class.getDeclaredMethods()) {
            if (Modifier.isPrivate(method.getModifiers()) && publicNames.contains(method.getName())) {
                Check.same("a private method with a public name", method.getName(), "none");
            }
        }
        noOtherMembers();
        Check.end();
    }

    private static void noOtherMembers() {
        Constructor<?>[] constructors = RateFitter.class.getDeclaredConstructors();
        Check.equal("one constructor", constructors.length, 1);
        Check.equal("it is public", constructors[0].getModifiers(), Modifier.PUBLIC);
        Check.equal("it has no parameters", constructors[0].getParameterCount(), 0);
        for (Field field : RateFitter.class.getDeclaredFields()) {
            int modifiers = field.getModifiers();
            Check.equal(field.getName() + " is private", Modifier.isPrivate(modifiers) ? 1 : 0, 1);
            Check.equal(field.getName() + " is final if static",
                    Modifier.isStatic(modifiers) && !Modifier.isFinal(modifiers) ? 1 : 0, 0);
        }
    }

    private static String told(Method method) {
        StringBuilder text = new StringBuilder(Modifier.toString(method.getModifiers()));
        text.append(' ').append(method.getReturnType()).append(' ').append(method.getName());
        for (Class<?> parameter : method.getParameterTypes()) {
            text.append(' ').append(parameter);
        }
        for (Class<?> thrown : method.getExceptionTypes()) {
            text.append(' ').append(thrown.getSimpleName());
        }
        return text.toString();
    }

    private static Set<String> due() {
        return new TreeSet<>(Arrays.asList(
                "public int add int int int int int int " + ARGUMENT + " " + STATE,
                "public int withdraw int " + ROW,
                "public int setOld int int " + ROW + " " + ARGUMENT,
                "public int setRules int int " + ARGUMENT,
                "public int setFactor int int int " + ROW + " " + ARGUMENT,
                "public int pass int " + ROW,
                "public int settle",
                "public int smooth int " + ROW,
                "public int spread",
                "public int rows",
                "public long base",
                "public int factor int int " + ROW,
                "public long fitted int " + ROW,
                "public long toldSum int int " + ROW,
                "public long fittedSum int int " + ROW,
                "public long worst int " + ROW,
                "public long premium int " + ROW,
                "public long capped int " + ROW,
                "public long lost",
                "public int rankedAt int " + ROW));
    }
}
