import java.io.IOException;
import java.lang.reflect.Array;
import java.lang.reflect.Constructor;
import java.lang.reflect.Field;
import java.lang.reflect.Method;
import java.lang.reflect.Modifier;
import java.nio.file.Files;
import java.nio.file.Path;
import java.util.ArrayDeque;
import java.util.Collections;
import java.util.IdentityHashMap;
import java.util.Set;
import java.util.TreeSet;
import java.util.regex.Matcher;
import java.util.regex.Pattern;

/** The rules of LANGUAGE.md, as far as the source and the compiled classes show them. */
public final class LanguageTest {
    private static final Path SOURCE = Path.of("src/main/java/ReportChecks2.java");
    /** Each group of signs is a rule's: what must not stand in the source, outside of comments and texts. */
    private static final String[] NOT_IN_SOURCE = {
        "\\bpackage\\b", "\\bimport\\b", "->", "::", "\\btry\\b", "\\bcatch\\b", "\\bfinally\\b", "\\bassert\\b",
        "\\bsynchronized\\b", "\\bdouble\\b", "\\bfloat\\b", "\\bprotected\\b", "\\bstatic *\\{", "Exact\\b",
        "\\bhashCode\\b", "\\bequals\\b", "\\btoString\\b", "\\binstanceof\\b",
    };
    private static final Set<String> LIBRARY = Set.of("Math.min", "Math.abs", "Integer.bitCount", "System.arraycopy");
    private static final Set<String> THROWN = Set.of("IllegalStateException", "IllegalArgumentException",
            "IndexOutOfBoundsException", "UnsupportedOperationException");
    private static final int MOST_CLASSES = 12;
    private static final int MOST_FIELDS = 20;
    private static final int MOST_PARAMETERS = 7;
    /** A run has some 600,000 objects and 7.3 million fields and elements: this leaves nearly all of it. */
    private static final int MOST_OBJECTS = 200;
    private static final int MOST_ELEMENTS = 5_000;

    private final Due due = new Due();

    public static void main(String[] args) throws IOException, IllegalAccessException {
        LanguageTest test = new LanguageTest();
        test.source(Files.readString(SOURCE));
        test.outerClass();
        Class<?>[] inside = ReportChecks2.class.getDeclaredClasses();
        test.due.yes("at most twelve classes", inside.length + 1 <= MOST_CLASSES);
        for (Class<?> one : inside) {
            test.due.yes("static and private: " + one, Modifier.isStatic(one.getModifiers())
                    && Modifier.isPrivate(one.getModifiers()));
            test.anyClass(one);
        }
        test.room();
        test.due.end();
    }

    private void source(String whole) {
        String code = whole.replaceAll("(?s)/\\*.*?\\*/|//[^\n]*", "").replaceAll("\"[^\"\n]*\"", "\"\"");
        for (String sign : NOT_IN_SOURCE) {
            due.yes("not in the source: " + sign, !Pattern.compile(sign).matcher(code).find());
        }
        Matcher library = Pattern.compile("\\b(?:Math|Integer|Long|System|Arrays|String|Character)\\.\\w+").matcher(code);
        while (library.find()) {
            due.yes("in the library's list: " + library.group(), LIBRARY.contains(library.group()));
        }
        Matcher thrown = Pattern.compile("\\bthrow ([^;]*);").matcher(code);
        while (thrown.find()) {
            Matcher written = Pattern.compile("new (\\w+)\\(\"\"\\)").matcher(thrown.group(1));
            due.yes("thrown: " + thrown.group(1), written.matches() && THROWN.contains(written.group(1)));
        }
        due.yes("characters 0 to 255", whole.chars().allMatch(c -> c <= 255));
    }

    private void outerClass() {
        anyClass(ReportChecks2.class);
        Set<String> face = new TreeSet<>();
        for (Method method : ReportChecks2.class.getDeclaredMethods()) {
            if (Modifier.isPublic(method.getModifiers())) {
                face.add(method.getName());
            }
        }
        for (Class<?> one : ReportChecks2.class.getDeclaredClasses()) {
            for (Method method : one.getDeclaredMethods()) {
                due.yes("not a name of the face: " + method, !face.contains(method.getName()));
            }
        }
    }

    private void anyClass(Class<?> one) {
        int held = 0;
        for (Field field : one.getDeclaredFields()) {
            if (Modifier.isStatic(field.getModifiers())) {
                due.yes("a constant: " + field, Modifier.isFinal(field.getModifiers()) && field.getType() == int.class);
            } else {
                held++;
            }
        }
        due.yes("fields of " + one, held <= MOST_FIELDS);
        for (Method method : one.getDeclaredMethods()) {
            due.yes("parameters of " + method, method.getParameterCount() <= MOST_PARAMETERS);
            due.yes("not of the compiler's making: " + method, !method.isSynthetic());
        }
        for (Constructor<?> constructor : one.getDeclaredConstructors()) {
            due.yes("parameters of " + constructor, constructor.getParameterCount() <= MOST_PARAMETERS);
        }
    }

    /** All that an object with thirty reports holds, and that calls on it make nothing more. */
    private void room() throws IllegalAccessException {
        ReportChecks2 x = new ReportChecks2();
        for (int i = 0; i < 30; i++) {
            x.report(i, 0);
        }
        long[] full = held(x);
        due.yes("objects: " + full[0], full[0] <= MOST_OBJECTS);
        due.yes("fields and elements: " + full[1], full[1] <= MOST_ELEMENTS);
        Texts.rules(x, "f0<f1;".repeat(20));
        x.field(0, 0, 5);
        x.field(0, 1, 5);
        x.check(0);
        x.code(0, 0);
        due.same("what more is held", full[0] + " " + full[1], held(x)[0] + " " + held(x)[1]);
    }

    /** Objects and arrays, then fields and elements. */
    private static long[] held(Object root) throws IllegalAccessException {
        Set<Object> seen = Collections.newSetFromMap(new IdentityHashMap<>());
        ArrayDeque<Object> waiting = new ArrayDeque<>();
        waiting.add(root);
        long elements = 0;
        while (!waiting.isEmpty()) {
            Object one = waiting.remove();
            if (seen.add(one)) {
                elements += one.getClass().isArray() ? addElements(one, waiting) : addFields(one, waiting);
            }
        }
        return new long[] {seen.size(), elements};
    }

    private static int addElements(Object array, ArrayDeque<Object> waiting) {
        int length = Array.getLength(array);
        for (int i = 0; i < length && !array.getClass().getComponentType().isPrimitive(); i++) {
            if (Array.get(array, i) != null) {
                waiting.add(Array.get(array, i));
            }
        }
        return length;
    }

    private static int addFields(Object one, ArrayDeque<Object> waiting) throws IllegalAccessException {
        int fields = 0;
        for (Field field : one.getClass().getDeclaredFields()) {
            if (!Modifier.isStatic(field.getModifiers())) {
                fields++;
                field.setAccessible(true);
                if (!field.getType().isPrimitive() && field.get(one) != null) {
                    waiting.add(field.get(one));
                }
            }
        }
        return fields;
    }
}
