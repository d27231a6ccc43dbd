import java.lang.reflect.Constructor;
import java.lang.reflect.Field;
import java.lang.reflect.Method;
import java.lang.reflect.Modifier;
import java.util.Set;
import java.util.TreeSet;

/** The face: every member of the document, with its exceptions, and no other that can be seen. */
public final class FaceTest {
    private static final String I = "IndexOutOfBoundsException", A = "IllegalArgumentException", S = "IllegalStateException";
    private static final String[] METHODS = {
        "int profile 0 " + S,
        "int bend 4 " + I + " " + A + " " + S,
        "int reach 4 " + I + " " + A + " " + S,
        "int way 2 " + I + " " + A + " " + S,
        "int curve 3 " + I + " " + A,
        "int taken 3 " + I + " " + A,
        "int chain 0 " + S,
        "int add 2 " + I + " " + S,
        "int drop 1 " + I + " " + S,
        "int through 3 " + I + " " + A,
        "int gap 1 " + I,
        "int greyGap 1 " + I,
        "int join 2 " + I + " " + A + " " + S,
        "int joined 3 " + I + " " + A + " " + S,
        "int stale 0",
        "boolean sign 1 " + I,
        "int held 0",
        "int paint 3 " + I + " " + A,
        "int spot 3 " + I + " " + A,
        "int mix 3 " + I + " " + A,
        "int shown 4 " + I + " " + A,
    };

    public static void main(String[] args) {
        Class<?> face = GamutChain.class;
        Checks.yes("public and final", Modifier.isPublic(face.getModifiers()) && Modifier.isFinal(face.getModifiers()));
        Checks.due("superclass is Object", 1, face.getSuperclass() == Object.class ? 1 : 0);
        Checks.due("interfaces", 0, face.getInterfaces().length);
        methods(face);
        fields(face);
        Constructor<?>[] made = face.getDeclaredConstructors();
        Checks.due("constructors", 1, made.length);
        Checks.yes("public without arguments", Modifier.isPublic(made[0].getModifiers()) && made[0].getParameterCount() == 0);
        Checks.due("CUT", 0, GamutChain.CUT);
        Checks.due("SQUEEZE", 1, GamutChain.SQUEEZE);
        Checks.due("FOLD", 2, GamutChain.FOLD);
        Checks.end();
    }

    private static void methods(Class<?> face) {
        Set<String> wanted = new TreeSet<>(Set.of(METHODS));
        Set<String> names = new TreeSet<>();
        for (String method : METHODS) {
            names.add(method.split(" ")[1]);
        }
        for (Method method : face.getDeclaredMethods()) {
            if (Modifier.isPrivate(method.getModifiers())) {
                Checks.yes("a private method has a name of its own: " + method.getName(), !names.contains(method.getName()));
            } else {
                Checks.yes("of the face: " + told(method), wanted.remove(told(method)));
                Checks.yes("public and of the object: " + method, method.getModifiers() == Modifier.PUBLIC);
            }
        }
        Checks.yes("missing: " + wanted, wanted.isEmpty());
    }

    private static String told(Method method) {
        StringBuilder text = new StringBuilder(method.getReturnType().getName());
        text.append(' ').append(method.getName()).append(' ').append(method.getParameterCount());
        for (Class<?> kind : method.getParameterTypes()) {
            Checks.yes("int arguments alone", kind == int.class);
        }
        for (Class<?> kind : method.getExceptionTypes()) {
            text.append(' ').append(kind.getSimpleName());
        }
        return text.toString();
    }

    private static void fields(Class<?> face) {
        Set<String> wanted = new TreeSet<>(Set.of("CUT", "SQUEEZE", "FOLD"));
        for (Field field : face.getDeclaredFields()) {
            if (!Modifier.isPrivate(field.getModifiers())) {
                Checks.yes("of the face: " + field, wanted.remove(field.getName()));
                Checks.due("a constant: " + field, Modifier.PUBLIC | Modifier.STATIC | Modifier.FINAL, field.getModifiers());
            }
        }
        Checks.yes("missing: " + wanted, wanted.isEmpty());
    }
}
