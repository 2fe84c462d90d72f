import java.lang.reflect.Constructor;
import java.lang.reflect.Field;
import java.lang.reflect.Method;
import java.lang.reflect.Modifier;
import java.util.Arrays;
import java.util.TreeSet;

/** The class has the document's face, and nothing else that others could see. */
public final class FaceTest {
    private static final String FACE = String.join("\n",
            "boolean cut(int)",
            "boolean put(int)",
            "int fault(int) IndexOutOfBoundsException",
            "int join(int,int,boolean) IndexOutOfBoundsException IllegalStateException UnsupportedOperationException",
            "int knot(int,int) IndexOutOfBoundsException IllegalStateException IllegalArgumentException"
                    + " UnsupportedOperationException",
            "int leaf(int) IllegalArgumentException UnsupportedOperationException",
            "int length()",
            "int letter(int) IndexOutOfBoundsException",
            "int read(int) IndexOutOfBoundsException IllegalStateException IllegalArgumentException",
            "int step(int) IndexOutOfBoundsException",
            "int stopped()",
            "int terms()",
            "int trace()",
            "int type(int,int) IndexOutOfBoundsException IllegalStateException",
            "int variable(int) IllegalArgumentException UnsupportedOperationException",
            "long count(int,int) IndexOutOfBoundsException IllegalStateException IllegalArgumentException",
            "void clear()",
            "void find(int,int,long) IndexOutOfBoundsException IllegalStateException IllegalArgumentException"
                    + " NoSuchElementException");

    private FaceTest() {
    }

    public static void main(String[] args) {
        Class<?> face = GuardedGrammar.class;
        Check.holds("a public final class", face.getModifiers() == (Modifier.PUBLIC | Modifier.FINAL));
        Check.same("the public methods", FACE, methods(face));
        Check.same("the public fields", "public static final int NONE", fields(face));
        Constructor<?>[] constructors = face.getDeclaredConstructors();
        Check.answers("constructors", 1, () -> constructors.length);
        Check.answers("parameters of the constructor", 0, () -> constructors[0].getParameterCount());
        Check.holds("a public constructor", Modifier.isPublic(constructors[0].getModifiers()));
        for (Class<?> inside : face.getDeclaredClasses()) {
            Check.holds(inside + " is static", Modifier.isStatic(inside.getModifiers()));
            Check.holds(inside + " is not public", !Modifier.isPublic(inside.getModifiers()));
            Check.holds(inside + " has some twenty fields", inside.getDeclaredFields().length <= 20);
        }
        Check.holds("some twelve classes", face.getDeclaredClasses().length <= 11);
        Check.end();
    }

    private static String methods(Class<?> face) {
        TreeSet<String> lines = new TreeSet<>();
        TreeSet<String> names = new TreeSet<>();
        for (Method method : face.getDeclaredMethods()) {
            if (!Modifier.isPrivate(method.getModifiers())) {
                lines.add(line(method));
                names.add(method.getName());
            }
        }
        for (Method method : face.getDeclaredMethods()) {
            if (Modifier.isPrivate(method.getModifiers())) {
                Check.holds(method + " has a name of its own", !names.contains(method.getName()));
            }
        }
        return String.join("\n", lines);
    }

    private static String line(Method method) {
        StringBuilder line = new StringBuilder(method.getReturnType().getSimpleName());
        line.append(' ').append(method.getName()).append('(');
        line.append(String.join(",",
                Arrays.stream(method.getParameterTypes()).map(Class::getSimpleName).toList()));
        line.append(')');
        for (Class<?> thrown : method.getExceptionTypes()) {
            line.append(' ').append(thrown.getSimpleName());
        }
        return line.toString();
    }

    private static String fields(Class<?> face) {
        StringBuilder lines = new StringBuilder();
        for (Field field : face.getDeclaredFields()) {
            if (!Modifier.isPrivate(field.getModifiers())) {
                lines.append(Modifier.toString(field.getModifiers())).append(' ');
                lines.append(field.getType().getSimpleName()).append(' ').append(field.getName());
            }
        }
        return lines.toString();
    }
}
