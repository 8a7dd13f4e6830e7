import java.lang.reflect.Constructor;
import java.lang.reflect.Field;
import java.lang.reflect.Method;
import java.lang.reflect.Modifier;
import java.util.Arrays;
import java.util.TreeSet;

/** The public face is the document's, and no more than it. */
public final class FaceTest {
    private static final String[] FACE = {
        "int begin(int,int,int) IllegalArgumentException",
        "boolean tell(int,int,int) IllegalArgumentException IllegalStateException",
        "int strike(int) IndexOutOfBoundsException",
        "boolean isDone(int) IndexOutOfBoundsException",
        "int acts()",
        "int close(int) IllegalArgumentException IllegalStateException",
        "int month()",
        "int state()",
        "int account()",
        "int loan()",
        "int arrears()",
        "int deathSum()",
        "int paid()",
        "int charge()",
        "int grace()",
        "int corridor(int) IllegalArgumentException",
        "int accountAt(int) IllegalArgumentException",
        "int accountFromStart(int) IllegalArgumentException",
        "int stateAt(int) IllegalArgumentException",
        "int wouldLapse(int) IllegalArgumentException",
        "int needed(int) IllegalArgumentException",
    };

    public static void main(String[] args) {
        Class<FlexiblePolicy> c = FlexiblePolicy.class;
        Check.due("public and final", c.getModifiers(), Modifier.PUBLIC | Modifier.FINAL);
        TreeSet<String> got = new TreeSet<>();
        for (Method m : c.getDeclaredMethods()) {
            if (!Modifier.isPrivate(m.getModifiers()) && !m.isSynthetic()) {
                Check.due(m.getName() + " is public", Modifier.isPublic(m.getModifiers()), true);
                got.add(written(m));
            }
        }
        TreeSet<String> want = new TreeSet<>(Arrays.asList(FACE));
        Check.due("the face " + got, got.equals(want), true);
        Constructor<?>[] makers = c.getDeclaredConstructors();
        Check.due("constructors", makers.length, 1);
        Check.due("its parameters", makers[0].getParameterCount(), 0);
        Check.due("it is public", Modifier.isPublic(makers[0].getModifiers()), true);
        for (Field f : c.getDeclaredFields()) {
            Check.due(f.getName() + " is private", Modifier.isPrivate(f.getModifiers()), true);
            boolean loose = Modifier.isStatic(f.getModifiers()) && !Modifier.isFinal(f.getModifiers());
            Check.due(f.getName() + " is static and not final", loose, false);
        }
        Check.end("FaceTest");
    }

    private static String written(Method m) {
        StringBuilder text = new StringBuilder(m.getReturnType().getSimpleName());
        text.append(' ').append(m.getName()).append('(');
        for (int i = 0; i < m.getParameterCount(); i++) {
            text.append(i == 0 ? "" : ",").append(m.getParameterTypes()[i].getSimpleName());
        }
        text.append(')');
        for (Class<?> thrown : m.getExceptionTypes()) {
            text.append(' ').append(thrown.getSimpleName());
        }
        return text.toString();
    }
}
