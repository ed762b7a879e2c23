import java.lang.reflect.Constructor;
import java.lang.reflect.Field;
import java.lang.reflect.Method;
import java.lang.reflect.Modifier;
import java.util.Arrays;
import java.util.Set;
import java.util.TreeSet;

/** The public face is the document's, and nothing else can be seen from outside. */
public final class FaceTest {
    private static final Set<String> DUE = new TreeSet<>(Arrays.asList(
            "SealedStream()",
            "void key(long, long)",
            "int word(int) IndexOutOfBoundsException",
            "long encrypt(long, long, boolean)",
            "long decrypt(long, long, boolean)",
            "long product(long, long, long, long, boolean)",
            "void start(boolean, long, int)",
            "int aside(long, int) IllegalStateException IllegalArgumentException UnsupportedOperationException",
            "long text(long, int) IllegalStateException IllegalArgumentException UnsupportedOperationException",
            "int seal() IllegalStateException",
            "boolean open(long, long) IllegalStateException",
            "long tag(boolean) IllegalStateException",
            "int length()",
            "int at(int)",
            "int phase()"));

    public static void main(String[] args) {
        int kind = SealedStream.class.getModifiers();
        Check.that("the class is not public and final", Modifier.isPublic(kind) && Modifier.isFinal(kind));
        Set<String> got = new TreeSet<>();
        Set<String> open = new TreeSet<>();
        Set<String> hidden = new TreeSet<>();
        for (Constructor<?> c : SealedStream.class.getDeclaredConstructors()) {
            got.add("SealedStream(" + names(c.getParameterTypes(), ", ") + ")");
        }
        for (Method m : SealedStream.class.getDeclaredMethods()) {
            if (Modifier.isPrivate(m.getModifiers()) || m.isSynthetic()) {
                hidden.add(m.getName());
            } else {
                Check.that(m + " is not plainly public", m.getModifiers() == Modifier.PUBLIC);
                open.add(m.getName());
                got.add(told(m));
            }
        }
        Check.that("the face is " + got + ", due is " + DUE, got.equals(DUE));
        hidden.retainAll(open);
        Check.that("private methods with the name of a public one: " + hidden, hidden.isEmpty());
        fields();
        constants();
        for (Class<?> c : SealedStream.class.getDeclaredClasses()) {
            int m = c.getModifiers();
            Check.that(c + " is seen from outside", !Modifier.isPublic(m) && !Modifier.isProtected(m));
            Check.that(c + " is not static", Modifier.isStatic(m));
        }
        Check.end();
    }

    private static String told(Method m) {
        String told = m.getReturnType().getSimpleName() + " " + m.getName() + "(" + names(m.getParameterTypes(), ", ") + ")";
        String thrown = names(m.getExceptionTypes(), " ");
        return thrown.isEmpty() ? told : told + " " + thrown;
    }

    private static String names(Class<?>[] types, String between) {
        String[] names = new String[types.length];
        for (int i = 0; i < types.length; i++) {
            names[i] = types[i].getSimpleName();
        }
        return String.join(between, names);
    }

    private static void fields() {
        Set<String> got = new TreeSet<>();
        for (Field f : SealedStream.class.getDeclaredFields()) {
            if (!Modifier.isPrivate(f.getModifiers())) {
                boolean constant = f.getModifiers() == (Modifier.PUBLIC | Modifier.STATIC | Modifier.FINAL);
                Check.that(f + " is no public constant of int", constant && f.getType() == int.class);
                got.add(f.getName());
            }
        }
        Set<String> due = new TreeSet<>(Arrays.asList("NONE", "ASIDE", "TEXT", "SEALED", "OPENED", "REFUSED"));
        Check.that("the constants are " + got + ", due is " + due, got.equals(due));
    }

    private static void constants() {
        Check.same("NONE", SealedStream.NONE, 0);
        Check.same("ASIDE", SealedStream.ASIDE, 1);
        Check.same("TEXT", SealedStream.TEXT, 2);
        Check.same("SEALED", SealedStream.SEALED, 3);
        Check.same("OPENED", SealedStream.OPENED, 4);
        Check.same("REFUSED", SealedStream.REFUSED, 5);
    }
}
