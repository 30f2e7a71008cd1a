import java.io.IOException;
import java.lang.reflect.InvocationTargetException;
import java.lang.reflect.Method;
import java.nio.file.Files;
import java.nio.file.Path;
import java.util.Set;
import java.util.TreeSet;
import java.util.regex.Matcher;
import java.util.regex.Pattern;

/** The calls in README.md are one run on one object: each of them answers as is told behind it, and none is left out. */
public final class ReadmeTest {
    private static final String MADE = "Trigonyard yard = new Trigonyard();";
    private static final Pattern CALL = Pattern.compile("yard\\.(\\w+)\\((.*?)\\); +// (throws )?([^\\s:,]+).*");

    private static int wrong = 0;
    private static Trigonyard yard = null;

    private static void fault(String text) {
        wrong++;
        System.out.println(text);
    }

    public static void main(String[] args) throws IOException {
        String page = Files.readString(Path.of("README.md"));
        Set<String> called = new TreeSet<>();
        Matcher block = Pattern.compile("(?s)```java\n(.*?)```").matcher(page);
        while (block.find()) {
            for (String line : block.group(1).split("\n")) {
                tryLine(line, called);
            }
        }
        for (Method m : Trigonyard.class.getMethods()) {
            if (m.getDeclaringClass() == Trigonyard.class && !called.contains(m.getName())) {
                fault("README.md has no call of " + m.getName());
            }
        }
        if (!page.contains("\n    .ci/run\n")) {
            fault("README.md does not say how the tests are run");
        }
        System.out.println(wrong == 0 ? "readme: all as due" : "readme: " + wrong + " faults");
        if (wrong != 0) {
            System.exit(1);
        }
    }

    private static void tryLine(String line, Set<String> called) {
        Matcher call = CALL.matcher(line);
        if (line.equals(MADE)) {
            yard = new Trigonyard();
        } else if (yard == null || !call.matches()) {
            fault("is not one call with its answer behind it: " + line);
        } else {
            called.add(call.group(1));
            tryCall(line, call.group(1), call.group(2), call.group(3) != null, call.group(4));
        }
    }

    private static void tryCall(String line, String name, String told, boolean isRefused, String want) {
        String[] values = told.isEmpty() ? new String[0] : told.split(", ");
        Method method = methodOf(name, values.length);
        if (method == null) {
            fault("there is no such call: " + line);
            return;
        }
        long before = yard.checksum();
        String thrown = "";
        String got = "";
        try {
            got = String.valueOf(method.invoke(yard, arguments(method.getParameterTypes(), values)));
        } catch (InvocationTargetException e) {
            thrown = e.getCause().getClass().getSimpleName();
        } catch (IllegalAccessException | IllegalArgumentException e) {
            thrown = "nothing, as it can't be made: " + e;
        }
        if (!thrown.equals(isRefused ? want : "") || !got.equals(isRefused ? "" : want)) {
            fault("answered " + got + ", threw " + thrown + ": " + line);
        }
        if (isRefused && yard.checksum() != before) {
            fault("changed something: " + line);
        }
    }

    private static Method methodOf(String name, int parameters) {
        for (Method m : Trigonyard.class.getMethods()) {
            if (m.getName().equals(name) && m.getParameterCount() == parameters) {
                return m;
            }
        }
        return null;
    }

    private static Object[] arguments(Class<?>[] types, String[] values) {
        Object[] all = new Object[types.length];
        for (int i = 0; i < types.length; i++) {
            all[i] = argument(types[i], values[i]);
        }
        return all;
    }

    private static Object argument(Class<?> type, String value) {
        if (type == char.class) {
            return value.matches("'.'") ? (Object) value.charAt(1) : value;
        }
        return type == long.class ? (Object) Long.valueOf(value.replaceFirst("L$", "")) : Integer.valueOf(value);
    }
}
