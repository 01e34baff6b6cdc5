import java.lang.reflect.Constructor;
import java.lang.reflect.Field;
import java.lang.reflect.Method;
import java.lang.reflect.Modifier;
import java.util.Arrays;

/** The public face: the constants, the constructor and the methods of the document, and no others. */
public final class FaceTest {
    private static final String METHODS = "boolean forbid(int, boolean); boolean same(int); boolean set(int, int, int); "
            + "boolean text(int, int); boolean unit(int); int add(int, int, int); int classes(); int count(int); "
            + "int kind(int, int); int limit(int); int make(int); int read(); int sign(int); int take(); "
            + "int value(int, int, int, int); int write(int, int)";

    public static void main(String[] args) {
        Class<?> face = GraphScribe.class;
        Check.due("the class is public", Modifier.isPublic(face.getModifiers()), true);
        Check.due("the class is final", Modifier.isFinal(face.getModifiers()), true);
        Check.due("methods", String.join("; ", methods(face)), METHODS);
        Check.due("constants", fields(face), "BAD MEANING NONE TOO_DEEP TOO_LONG");
        Check.due("constructors", constructors(face), 1);
        Check.due("BAD", GraphScribe.BAD, -1);
        Check.due("NONE", GraphScribe.NONE, -2);
        Check.due("TOO_DEEP", GraphScribe.TOO_DEEP, -3);
        Check.due("TOO_LONG", GraphScribe.TOO_LONG, -4);
        Check.due("MEANING", GraphScribe.MEANING, -10001);
        Check.end();
    }

    private static String[] methods(Class<?> face) {
        return Arrays.stream(face.getDeclaredMethods())
                .filter(method -> !Modifier.isPrivate(method.getModifiers()))
                .map(FaceTest::signature).sorted().toArray(String[]::new);
    }

    private static String signature(Method method) {
        String types = Arrays.toString(method.getParameterTypes());
        return method.getReturnType() + " " + method.getName() + "(" + types.substring(1, types.length() - 1) + ")";
    }

    private static String fields(Class<?> face) {
        return String.join(" ", Arrays.stream(face.getDeclaredFields())
                .filter(field -> !Modifier.isPrivate(field.getModifiers()))
                .map(Field::getName).sorted().toArray(String[]::new));
    }

    private static int constructors(Class<?> face) {
        int found = 0;
        for (Constructor<?> constructor : face.getDeclaredConstructors()) {
            Check.due("the constructor is public", Modifier.isPublic(constructor.getModifiers()), true);
            Check.due("its parameters", constructor.getParameterCount(), 0);
            found++;
        }
        return found;
    }
}
