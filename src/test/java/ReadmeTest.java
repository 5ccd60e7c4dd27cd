import java.io.IOException;
import java.lang.reflect.InvocationTargetException;
import java.lang.reflect.Method;
import java.nio.file.Files;
import java.nio.file.Path;
import java.util.TreeSet;
import java.util.regex.Matcher;
import java.util.regex.Pattern;

/** Makes the calls of README.md, one after the other: each must answer what stands behind it. */
public final class ReadmeTest {
    private static final Pattern CALL = Pattern.compile("x\\.(\\w+)\\((.*)\\); +// ((-?\\w+|throws \\w+): )?.+");
    private static final String NEW = "ReportChecks2 x = new ReportChecks2();";

    private final Due due = new Due();
    private final ReportChecks2 x = new ReportChecks2();
    private final TreeSet<String> called = new TreeSet<>();

    public static void main(String[] args) throws IOException, IllegalAccessException {
        ReadmeTest test = new ReadmeTest();
        String text = Files.readString(Path.of("README.md"));
        int start = text.indexOf(NEW) + NEW.length();
        for (String line : text.substring(start, text.indexOf("```", start)).split("\n")) {
            if (!line.isEmpty()) {
                test.make(line);
            }
        }
        test.due.same("methods that README.md shows", faceNames().toString(), test.called.toString());
        test.due.end();
    }

    private static TreeSet<String> faceNames() {
        TreeSet<String> names = new TreeSet<>();
        for (Method method : ReportChecks2.class.getMethods()) {
            if (method.getDeclaringClass() == ReportChecks2.class) {
                names.add(method.getName());
            }
        }
        return names;
    }

    private void make(String line) throws IllegalAccessException {
        Matcher call = CALL.matcher(line);
        if (!call.matches()) {
            due.same("a line of README.md", "a call and what it answers", line);
            return;
        }
        Method method = named(call.group(1));
        String answer = answer(method, call.group(2).split(", "));
        due.same(line, call.group(4) == null ? "null" : call.group(4), answer);
        called.add(method.getName());
    }

    private static Method named(String name) {
        for (Method method : ReportChecks2.class.getMethods()) {
            if (method.getName().equals(name)) {
                return method;
            }
        }
        throw new IllegalArgumentException("no method " + name);
    }

    private String answer(Method method, String[] written) throws IllegalAccessException {
        Class<?>[] types = method.getParameterTypes();
        Object[] arguments = new Object[types.length];
        for (int i = 0; i < types.length; i++) {
            arguments[i] = argument(types[i], written[i]);
        }
        try {
            return String.valueOf(method.invoke(x, arguments));
        } catch (InvocationTargetException e) {
            return "throws " + e.getCause().getClass().getSimpleName();
        }
    }

    private static Object argument(Class<?> type, String written) {
        if (type == boolean.class) {
            return Boolean.valueOf(written);
        }
        if (type == long.class) {
            return Long.decode(written.replace("L", ""));
        }
        return Integer.decode(written);
    }
}
