import java.io.IOException;
import java.lang.reflect.Executable;
import java.lang.reflect.Field;
import java.lang.reflect.Modifier;
import java.nio.file.Files;
import java.nio.file.Path;
import java.util.ArrayList;
import java.util.Arrays;
import java.util.List;
import java.util.Set;
import java.util.regex.Matcher;
import java.util.regex.Pattern;

/** What of the rules of LANGUAGE.md can be seen from the class and its text; run where src stands. */
public final class LanguageTest extends Checks {
    private static final Set<String> IMPORTS = Set.of("java.util.ArrayList", "java.util.Arrays", "java.util.Iterator",
        "java.util.List", "java.util.NoSuchElementException");
    private static final Set<String> LIBRARY = Set.of("System.arraycopy", "Arrays.copyOf", "Arrays.copyOfRange",
        "Arrays.fill", "List.of", "Integer.bitCount", "Integer.compare", "Integer.max", "Integer.min",
        "Long.bitCount", "Long.compare", "Long.max", "Long.min", "Math.abs", "Math.max", "Math.min",
        "Math.floorDiv", "Math.floorMod");
    private static final Set<String> EXCEPTIONS = Set.of("IllegalStateException", "IllegalArgumentException",
        "IndexOutOfBoundsException", "ArithmeticException", "UnsupportedOperationException",
        "NoSuchElementException", "RuntimeException");
    private static final Set<Class<?>> CONSTANTS = Set.of(int.class, long.class, boolean.class, char.class,
        String.class, int[].class, long[].class, byte[].class, char[].class);

    private static List<Class<?>> classes() {
        List<Class<?>> all = new ArrayList<>(Arrays.asList(Topplemoor.class.getDeclaredClasses()));
        all.add(Topplemoor.class);
        return all;
    }

    /** Comments and what stands in texts are no code. */
    private static String codeOf(String text) {
        return text.replaceAll("(?s)/\\*.*?\\*/", "").replaceAll("//[^\n]*", "").replaceAll("\"[^\"\n]*\"", "\"\"");
    }

    private static void rule1And2Classes() {
        for (Class<?> inner : Topplemoor.class.getDeclaredClasses()) {
            int modifiers = inner.getModifiers();
            same("rule 2: static " + inner, Modifier.isStatic(modifiers), true);
            same("rule 1: hidden " + inner, Modifier.isPublic(modifiers) || Modifier.isProtected(modifiers), false);
        }
    }

    private static boolean isFree(Class<?> type) {
        Class<?> part = type;
        int dimensions = 0;
        while (part.isArray()) {
            part = part.getComponentType();
            dimensions++;
        }
        boolean isOwn = classes().contains(part);
        return dimensions <= 1 && isOwn || dimensions <= 2 && part.isPrimitive();
    }

    private static void rule3And5And11Fields() {
        for (Class<?> each : classes()) {
            int fields = 0;
            for (Field field : each.getDeclaredFields()) {
                boolean isStatic = Modifier.isStatic(field.getModifiers());
                boolean isConstant = Modifier.isFinal(field.getModifiers()) && CONSTANTS.contains(field.getType());
                same("rule 3, 5: " + field, isStatic ? isConstant : isFree(field.getType()), true);
                fields += isStatic ? 0 : 1;
            }
            same("rule 11: fields of " + each, fields <= 20, true);
        }
        same("rule 11: classes", classes().size() <= 12, true);
    }

    private static void rule11Parameters() {
        for (Class<?> each : classes()) {
            List<Executable> all = new ArrayList<>(Arrays.asList(each.getDeclaredMethods()));
            all.addAll(Arrays.asList(each.getDeclaredConstructors()));
            for (Executable one : all) {
                same("rule 11: parameters of " + one, one.getParameterCount() <= 7, true);
                same("rule 2, 6: " + one, one.isSynthetic() || one.toString().contains("synchronized"), false);
            }
        }
    }

    private static void allFound(String rule, String code, String pattern, Set<String> free) {
        Matcher matcher = Pattern.compile(pattern).matcher(code);
        while (matcher.find()) {
            same(rule + ": " + matcher.group(1), free.contains(matcher.group(1)), true);
        }
    }

    private static void rule4Library(String text, String code) {
        allFound("rule 4", code, "import\\s+(?:static\\s+)?([\\w.*]+);", IMPORTS);
        allFound("rule 4", code, "\\b((?:System|Arrays|List|Integer|Long|Math|Boolean|Character|Double|Objects|Thread)"
            + "\\.\\w+)", LIBRARY);
        for (int index = 0; index < text.length(); index++) {
            char sign = text.charAt(index);
            if (sign < 1 || sign > 127) {
                same("rule 4: sign at " + index, sign, 0);
            }
        }
    }

    private static void rule6Exceptions(String code) {
        allFound("rule 6", code, "\\bthrow\\s+(?!new )(\\w+)", Set.of());
        allFound("rule 6", code, "\\bthrow new (\\w+)", EXCEPTIONS);
        allFound("rule 6", code, "\\bthrow new \\w+\\((?!\"\"\\);)(.*)", Set.of(");"));
        allFound("rule 2, 6, 10", code, "(->|::|\\bfinally\\b|\\bsynchronized\\b|\\bassert\\b|\\bcatch\\b|\" *\\+)",
            Set.of());
        allFound("rule 5", code, "\\b(static)\\s*\\{", Set.of());
    }

    /** A method is from its head, four or eight blanks in, to the closing brace that stands there, too. */
    private static void rule11Lengths(String text) {
        String[] lines = text.split("\n");
        int head = 0;
        for (int index = 0; index < lines.length; index++) {
            if (lines[index].matches("( {4}| {8})\\w.*\\) ?.*\\{")) {
                head = index;
            }
            if (lines[index].matches(" {4}| {8}}")) {
                same("rule 11: lines up to " + (index + 1), index - head < 60, true);
            }
        }
    }

    public static void main(String[] args) throws IOException {
        String text = Files.readString(Path.of("src/main/java/Topplemoor.java"));
        String code = codeOf(text);
        rule1And2Classes();
        rule3And5And11Fields();
        rule11Parameters();
        rule4Library(text, code);
        rule6Exceptions(code);
        rule11Lengths(text);
        end();
    }
}
