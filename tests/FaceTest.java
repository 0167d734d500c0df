import java.lang.reflect.Constructor;
import java.lang.reflect.Field;
import java.lang.reflect.Method;
import java.lang.reflect.Modifier;
import java.util.Arrays;
import java.util.Set;
import java.util.TreeSet;

/** The class shows what the document's face shows, and nothing else. */
public final class FaceTest {
    private static final String INDEX = "IndexOutOfBoundsException";
    private static final String ARGUMENT = "IllegalArgumentException";
    private static final String STATE = "IllegalStateException";

    private static final String[] DUE = {
        "int spot() " + STATE,
        "int edge(int, int, int) " + INDEX + " " + ARGUMENT,
        "int drop(int, int) " + INDEX + " " + ARGUMENT + " " + STATE,
        "int topple(int) " + INDEX + " " + STATE,
        "int settle() " + STATE,
        "int keep() " + STATE,
        "int add(int) " + INDEX + " " + STATE,
        "int sweep()",
        "int walk(int) " + INDEX + " " + STATE,
        "int pay(int, int) " + INDEX + " " + ARGUMENT,
        "int lend(int, boolean) " + INDEX,
        "int ofSpot(int, int) " + INDEX + " " + ARGUMENT,
        "int between(int, int) " + INDEX,
        "int coins(int) " + INDEX,
        "int kept(int, int) " + INDEX,
        "int many(int) " + ARGUMENT,
        "long count()",
        "double density()",
        "int would(int, int, int) " + INDEX + " " + ARGUMENT + " " + STATE,
        "boolean isLasting() " + STATE,
        "int neutral(int) " + INDEX + " " + STATE,
        "int fire()",
        "int order() " + STATE,
        "boolean canPay() " + STATE,
        "int weakest() " + STATE,
        "long digest()",
    };

    private static String faceOf(Method method) {
        StringBuilder face = new StringBuilder(method.getReturnType().getName());
        face.append(' ').append(method.getName()).append('(');
        String between = "";
        for (Class<?> type : method.getParameterTypes()) {
            face.append(between).append(type.getName());
            between = ", ";
        }
        face.append(')');
        for (Class<?> type : method.getExceptionTypes()) {
            face.append(' ').append(type.getSimpleName());
        }
        return face.toString();
    }

    private static boolean isHidden(int modifiers) {
        return Modifier.isPrivate(modifiers);
    }

    private static boolean hidesTheRest(Set<String> publicNames) {
        boolean isFine = true;
        for (Method method : Topplemoor.class.getDeclaredMethods()) {
            boolean isPublic = Modifier.isPublic(method.getModifiers());
            isFine &= isPublic || isHidden(method.getModifiers()) && !publicNames.contains(method.getName());
        }
        for (Field field : Topplemoor.class.getDeclaredFields()) {
            isFine &= isHidden(field.getModifiers());
        }
        return isFine;
    }

    public static void main(String[] args) {
        Set<String> got = new TreeSet<>();
        Set<String> names = new TreeSet<>();
        for (Method method : Topplemoor.class.getDeclaredMethods()) {
            if (Modifier.isPublic(method.getModifiers())) {
                got.add(faceOf(method));
                names.add(method.getName());
            }
        }
        Set<String> due = new TreeSet<>(Arrays.asList(DUE));
        Constructor<?>[] constructors = Topplemoor.class.getConstructors();
        boolean isFine = got.equals(due) && hidesTheRest(names);
        isFine &= constructors.length == 1 && constructors[0].getParameterCount() == 0;
        isFine &= Modifier.isFinal(Topplemoor.class.getModifiers());
        isFine &= Topplemoor.class.getPackageName().isEmpty();
        System.out.println(isFine ? "the face is as due" : "the face is " + got + ", due is " + due);
        if (!isFine) {
            System.exit(1);
        }
    }
}
