import java.io.IOException;
import java.lang.reflect.Constructor;
import java.lang.reflect.Field;
import java.lang.reflect.Method;
import java.lang.reflect.Modifier;
import java.nio.charset.StandardCharsets;
import java.nio.file.Files;
import java.nio.file.Path;
import java.util.Set;
import java.util.TreeSet;
import java.util.regex.Matcher;
import java.util.regex.Pattern;

/** The public face, and the rules of the language that can be seen from outside or in the text. */
public final class FaceTest {
    private static final Checks CHECKS = new Checks();
    private static final Path SOURCE = Path.of("src/main/java/DigitRows.java");
    private static final String SIX = "(int,int,int,int,int,int)";
    private static final String FOUR = "(int,int,int,int)";
    private static final Set<String> FACE = Set.of(
        "boolean put(int,int)", "int byteOf(int)", "int sum" + SIX, "int less" + SIX,
        "int product" + SIX, "int quotient" + SIX, "int shift" + SIX, "int compare" + FOUR,
        "int number(int,int,int)", "long value(int,int)", "int characters" + FOUR,
        "int digits" + FOUR, "int edit" + FOUR, "boolean significant()");
    private static final String[] WORDS_OUT = {
        "throw", "throws", "try", "catch", "synchronized", "assert", "protected", "package",
        "hashCode", "toString", "equals", "System", "Object", "var", "volatile", "native"
    };

    public static void main(String[] args) throws IOException {
        face();
        members(DigitRows.class);
        for (Class<?> inside : DigitRows.class.getDeclaredClasses()) {
            CHECKS.due(inside + " is static", Modifier.isStatic(inside.getModifiers()), true);
            members(inside);
        }
        text(Files.readString(SOURCE, StandardCharsets.ISO_8859_1));
        CHECKS.end();
    }

    private static void face() {
        CHECKS.due("public final", DigitRows.class.getModifiers(), Modifier.PUBLIC | Modifier.FINAL);
        Set<String> seen = new TreeSet<>();
        for (Method method : DigitRows.class.getDeclaredMethods()) {
            if (!Modifier.isPrivate(method.getModifiers())) {
                CHECKS.due(method + " is public", method.getModifiers(), Modifier.PUBLIC);
                seen.add(told(method));
            }
        }
        CHECKS.due("the face", seen.toString(), new TreeSet<>(FACE).toString());
        Constructor<?>[] made = DigitRows.class.getDeclaredConstructors();
        CHECKS.due("constructors", made.length, 1);
        CHECKS.due("constructor is public", made[0].getModifiers(), Modifier.PUBLIC);
        CHECKS.due("constructor takes nothing", made[0].getParameterCount(), 0);
        for (Field field : DigitRows.class.getDeclaredFields()) {
            CHECKS.due(field + " is private", Modifier.isPrivate(field.getModifiers()), true);
        }
    }

    private static String told(Method method) {
        StringBuilder types = new StringBuilder();
        for (Class<?> type : method.getParameterTypes()) {
            types.append(types.length() == 0 ? "" : ",").append(type.getName());
        }
        return method.getReturnType().getName() + " " + method.getName() + "(" + types + ")";
    }

    private static void members(Class<?> one) {
        int fields = 0;
        for (Field field : one.getDeclaredFields()) {
            if (Modifier.isStatic(field.getModifiers())) {
                CHECKS.due(field + " is final", Modifier.isFinal(field.getModifiers()), true);
            } else {
                fields++;
            }
        }
        CHECKS.due(one + " has at most 20 fields", fields <= 20, true);
        for (Method method : one.getDeclaredMethods()) {
            CHECKS.due(method + " takes at most 7", method.getParameterCount() <= 7, true);
            boolean inFace = one == DigitRows.class && Modifier.isPublic(method.getModifiers());
            boolean nameInFace = FACE.stream().anyMatch(f -> f.contains(" " + method.getName() + "("));
            CHECKS.due(method + " bears a name of its own", nameInFace && !inFace, false);
        }
    }

    private static void text(String source) {
        String code = source.replaceAll("(?s)/\\*.*?\\*/", "").replaceAll("//[^\n]*", "");
        for (String word : WORDS_OUT) {
            Matcher found = Pattern.compile("\\b" + word + "\\b").matcher(code);
            CHECKS.due("the word " + word, found.find(), false);
        }
        CHECKS.due("a lambda or a method reference", code.contains("->") || code.contains("::"), false);
        Matcher imports = Pattern.compile("import ([^;]*);").matcher(code);
        while (imports.find()) {
            CHECKS.due("import", imports.group(1), "java.util.Arrays");
        }
    }
}
