import java.lang.reflect.Constructor;
import java.lang.reflect.Field;
import java.lang.reflect.Method;
import java.lang.reflect.Modifier;
import java.util.Arrays;
import java.util.Set;
import java.util.TreeSet;

/** The public face is that of the document, with its throws clauses, and there is no more of it. */
public final class FaceTest {
    private static final String[] FACE = {
        "int setRooms(int, int, int, int) IndexOutOfBoundsException IllegalArgumentException",
        "int buyLinen(int, int) IndexOutOfBoundsException IllegalArgumentException",
        "boolean setBroken(boolean)",
        "int book(int, int, int, int) IndexOutOfBoundsException IllegalArgumentException IllegalStateException",
        "int come(int) IndexOutOfBoundsException IllegalStateException",
        "int burn(int, int, int) IndexOutOfBoundsException IllegalArgumentException IllegalStateException",
        "int night() IllegalStateException",
        "int settle()",
        "int today()",
        "int bookings()",
        "int free(int, int) IndexOutOfBoundsException",
        "int taken(int, int) IndexOutOfBoundsException",
        "int takenByBookings(int, int) IndexOutOfBoundsException",
        "int extra(int) IndexOutOfBoundsException",
        "int clean(int) IndexOutOfBoundsException",
        "int away(int) IndexOutOfBoundsException",
        "int sleeps(int) IndexOutOfBoundsException",
        "int points(int) IndexOutOfBoundsException",
        "int owes(int, int) IndexOutOfBoundsException",
        "int purse(int) IndexOutOfBoundsException",
    };

    private FaceTest() {
    }

    public static void main(String[] args) {
        Class<HostLeague> c = HostLeague.class;
        Check.holds("public and final", Modifier.isPublic(c.getModifiers()) && Modifier.isFinal(c.getModifiers()));
        Set<String> found = new TreeSet<>();
        Set<String> names = new TreeSet<>();
        for (Method m : c.getDeclaredMethods()) {
            if (Modifier.isPublic(m.getModifiers())) {
                found.add(describe(m));
                names.add(m.getName());
            } else {
                Check.holds(m + " is private", Modifier.isPrivate(m.getModifiers()));
            }
        }
        Check.same("the public methods", new TreeSet<>(Arrays.asList(FACE)).toString(), found.toString());
        privateNames(c, names);
        for (Class<?> inside : c.getDeclaredClasses()) {
            Check.holds(inside + " is static", Modifier.isStatic(inside.getModifiers()));
            Check.holds(inside + " is not public", !Modifier.isPublic(inside.getModifiers()));
            privateNames(inside, names);
        }
        constructors(c);
        fields(c);
        Check.finish("FaceTest");
    }

    private static String describe(Method m) {
        StringBuilder text = new StringBuilder(m.getReturnType().getSimpleName());
        text.append(' ').append(m.getName()).append('(');
        String between = "";
        for (Class<?> p : m.getParameterTypes()) {
            text.append(between).append(p.getSimpleName());
            between = ", ";
        }
        text.append(')');
        for (Class<?> e : m.getExceptionTypes()) {
            text.append(' ').append(e.getSimpleName());
        }
        return text.toString();
    }

    private static void privateNames(Class<?> c, Set<String> names) {
        for (Method m : c.getDeclaredMethods()) {
            boolean own = Modifier.isPublic(m.getModifiers()) || !names.contains(m.getName());
            Check.holds(m + " has a name of its own", own);
        }
    }

    private static void constructors(Class<?> c) {
        Constructor<?>[] made = c.getDeclaredConstructors();
        Check.due("constructors", 1, () -> made.length);
        Check.due("its parameters", 0, () -> made[0].getParameterCount());
        Check.holds("the constructor is public", Modifier.isPublic(made[0].getModifiers()));
    }

    private static void fields(Class<?> c) {
        for (Field f : c.getDeclaredFields()) {
            int m = f.getModifiers();
            Check.holds(f + " is private", Modifier.isPrivate(m));
            Check.holds(f + ": static is final", !Modifier.isStatic(m) || Modifier.isFinal(m));
        }
    }
}
