import java.io.IOException;
import java.lang.reflect.InvocationTargetException;
import java.lang.reflect.Method;
import java.lang.reflect.Modifier;
import java.nio.file.Files;
import java.nio.file.Path;
import java.util.HashSet;
import java.util.Set;
import java.util.regex.Matcher;
import java.util.regex.Pattern;

/** The example of README.md: each call in it answers what stands behind it, and no call of the face is left out. */
public final class ReadmeTest {
    private static final String START = "```java";
    private static final String FIRST = "HostLeague league = new HostLeague();";
    private static final String END = "```";
    private static final Pattern CALL = Pattern.compile("league\\.(\\w+)\\((.*)\\); +// ([\\w-]+): .+");

    private final HostLeague league = new HostLeague();
    private final Set<String> shown = new HashSet<>();

    private ReadmeTest() {
    }

    public static void main(String[] args) throws IOException {
        ReadmeTest test = new ReadmeTest();
        boolean inside = false;
        for (String line : Files.readAllLines(Path.of("README.md"))) {
            if (line.equals(START)) {
                inside = true;
            } else if (line.equals(END)) {
                inside = false;
            } else if (inside && !line.isEmpty() && !line.equals(FIRST)) {
                test.line(line);
            }
        }
        test.nothingLeftOut();
        Check.finish("ReadmeTest");
    }

    private void line(String line) {
        Matcher call = CALL.matcher(line);
        if (!call.matches()) {
            Check.holds(line + " is a call with its answer", false);
            return;
        }
        shown.add(call.group(1));
        Check.same(line, call.group(3), outcome(method(call.group(1)), call.group(2)));
    }

    private static Method method(String name) {
        for (Method method : HostLeague.class.getDeclaredMethods()) {
            if (Modifier.isPublic(method.getModifiers()) && method.getName().equals(name)) {
                return method;
            }
        }
        throw new IllegalStateException("README.md calls " + name + ", which is not in the face");
    }

    private String outcome(Method method, String arguments) {
        try {
            return "" + method.invoke(league, values(method, arguments));
        } catch (InvocationTargetException e) {
            return e.getCause().getClass().getSimpleName();
        } catch (IllegalAccessException e) {
            throw new IllegalStateException(e);
        }
    }

    private static Object[] values(Method method, String arguments) {
        Class<?>[] types = method.getParameterTypes();
        String[] texts = arguments.isEmpty() ? new String[0] : arguments.split(", ");
        Object[] values = new Object[texts.length];
        for (int n = 0; n < texts.length; n++) {
            boolean isNumber = n >= types.length || types[n] == int.class;
            values[n] = isNumber ? (Object) Integer.valueOf(texts[n]) : (Object) Boolean.valueOf(texts[n]);
        }
        return values;
    }

    private void nothingLeftOut() {
        for (Method method : HostLeague.class.getDeclaredMethods()) {
            if (Modifier.isPublic(method.getModifiers())) {
                Check.holds(method.getName() + " stands in README.md", shown.contains(method.getName()));
            }
        }
    }
}
