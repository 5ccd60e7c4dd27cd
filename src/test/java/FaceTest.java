import java.lang.reflect.Constructor;
import java.lang.reflect.Method;
import java.lang.reflect.Modifier;
import java.util.Arrays;
import java.util.TreeSet;

/** The public face, as the document writes it, and nothing beside it. */
public final class FaceTest {
    private static final String ARGUMENT = "IllegalArgumentException";
    private static final String INDEX = "IndexOutOfBoundsException";
    private static final String STATE = "IllegalStateException";
    private static final String ROOM = "UnsupportedOperationException";

    private static final String[] FACE = {
        "int report(int,int)" + ARGUMENT + INDEX + ROOM,
        "void ask(int,int,boolean)" + ARGUMENT,
        "void field(int,int,int)" + ARGUMENT + INDEX + STATE,
        "boolean act(int,int,int)" + ARGUMENT + INDEX + STATE,
        "void inside(int,int)" + ARGUMENT + INDEX + STATE,
        "int sign(long,int)" + INDEX + ROOM,
        "int rules()" + STATE,
        "int place()",
        "int check(int)" + ARGUMENT,
        "int wanting(int,int)" + ARGUMENT,
        "int put(int,int)" + ARGUMENT + STATE,
        "int edition(int)" + ARGUMENT + STATE + ROOM,
        "void fault(int,int)" + ARGUMENT + STATE,
        "void hide(int,int,boolean)" + ARGUMENT,
        "int code(int,int)" + ARGUMENT,
        "int at(int)" + INDEX,
        "int late(int,int)" + INDEX,
        "int count(int,int,int)" + ARGUMENT + INDEX,
        "int reportAt(int,int)" + ARGUMENT,
        "int value(int,int)" + ARGUMENT + STATE,
        "int tick(int)" + INDEX,
    };

    public static void main(String[] args) {
        Due due = new Due();
        Class<?> face = ReportChecks2.class;
        due.yes("public and final", Modifier.isPublic(face.getModifiers()) && Modifier.isFinal(face.getModifiers()));
        TreeSet<String> seen = new TreeSet<>();
        for (Method method : face.getDeclaredMethods()) {
            if (Modifier.isPublic(method.getModifiers())) {
                seen.add(written(method));
            } else {
                due.yes("private: " + method, Modifier.isPrivate(method.getModifiers()));
                due.yes("a name of its own: " + method,
                        Arrays.stream(FACE).noneMatch(line -> line.contains(" " + method.getName() + "(")));
            }
        }
        due.same("the methods", new TreeSet<>(Arrays.asList(FACE)).toString(), seen.toString());
        Constructor<?>[] constructors = face.getDeclaredConstructors();
        due.answers("constructors", 1, () -> constructors.length);
        due.yes("the constructor", Modifier.isPublic(constructors[0].getModifiers())
                && constructors[0].getParameterCount() == 0);
        due.yes("no field to be seen", Arrays.stream(face.getDeclaredFields())
                .allMatch(field -> Modifier.isPrivate(field.getModifiers())));
        due.end();
    }

    private static String written(Method method) {
        StringBuilder line = new StringBuilder(method.getReturnType() + " " + method.getName() + "(");
        for (Class<?> parameter : method.getParameterTypes()) {
            line.append(line.charAt(line.length() - 1) == '(' ? "" : ",").append(parameter);
        }
        line.append(')');
        for (Class<?> exception : method.getExceptionTypes()) {
            line.append(exception.getSimpleName());
        }
        return line.toString();
    }
}
