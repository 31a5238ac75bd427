import java.io.IOException;
import java.lang.reflect.Method;
import java.lang.reflect.Modifier;
import java.nio.file.DirectoryStream;
import java.nio.file.Files;
import java.nio.file.Path;
import java.util.List;
import java.util.Set;
import java.util.TreeSet;
import java.util.regex.Matcher;
import java.util.regex.Pattern;

/** That the calls of README.md answer as it says, and that it leaves out no call and no test. */
public final class ReadmeTest {
    private static final Checks CHECKS = new Checks();
    private static final String NEW_OBJECT = "DigitRows rows = new DigitRows();";
    private static final Pattern CALL =
        Pattern.compile("rows\\.(\\w+)\\(([-0-9, ]*)\\);\\s*// (-?\\d+|true|false)(:.*)?");
    // A text that a line says stands at a byte, such as "***-1,205" at byte 128.
    private static final Pattern TEXT = Pattern.compile("\"([^\"]*)\" at byte (\\d+)");

    public static void main(String[] args) throws IOException, ReflectiveOperationException {
        List<String> lines = Files.readAllLines(Path.of("README.md"));
        Set<String> called = new TreeSet<>();
        boolean inJava = false;
        DigitRows rows = null;
        for (String line : lines) {
            if (line.startsWith("```")) {
                inJava = line.equals("```java");
                rows = null;
            } else if (inJava && line.equals(NEW_OBJECT)) {
                rows = new DigitRows();
            } else if (inJava) {
                called.add(checkLine(rows, line));
            }
        }
        CHECKS.due("the calls that README.md shows", called.toString(), face().toString());
        namesEach(String.join("\n", lines));
        CHECKS.end();
    }

    private static String checkLine(DigitRows rows, String line)
            throws ReflectiveOperationException {
        Matcher call = CALL.matcher(line);
        if (rows == null || !call.matches()) {
            CHECKS.tell("README.md has a line of Java that is no call with its answer: " + line);
            return line;
        }
        String name = call.group(1);
        CHECKS.due("README.md: " + line, answer(rows, name, call.group(2)), call.group(3));
        Matcher text = TEXT.matcher(line);
        while (text.find()) {
            String due = text.group(1);
            int at = Integer.parseInt(text.group(2));
            CHECKS.due("README.md: " + line, textAt(rows, at, due.length()), due);
        }
        return name;
    }

    private static String answer(DigitRows rows, String name, String told)
            throws ReflectiveOperationException {
        String[] numbers = told.isEmpty() ? new String[0] : told.split(", ");
        Class<?>[] types = new Class<?>[numbers.length];
        Object[] values = new Object[numbers.length];
        for (int i = 0; i < numbers.length; i++) {
            types[i] = int.class;
            values[i] = Integer.valueOf(numbers[i]);
        }
        return DigitRows.class.getMethod(name, types).invoke(rows, values).toString();
    }

    private static String textAt(DigitRows rows, int at, int length) {
        StringBuilder text = new StringBuilder();
        for (int i = 0; i < length; i++) {
            text.append((char) rows.byteOf(at + i));
        }
        return text.toString();
    }

    private static Set<String> face() {
        Set<String> names = new TreeSet<>();
        for (Method method : DigitRows.class.getDeclaredMethods()) {
            if (Modifier.isPublic(method.getModifiers())) {
                names.add(method.getName());
            }
        }
        return names;
    }

    private static void namesEach(String readme) throws IOException {
        for (String name : face()) {
            CHECKS.due("README.md tells of " + name, readme.contains("`" + name + "("), true);
        }
        Path place = Path.of("src/test/java");
        try (DirectoryStream<Path> tests = Files.newDirectoryStream(place, "*Test.java")) {
            for (Path test : tests) {
                String name = test.getFileName().toString().replace(".java", "");
                CHECKS.due("README.md tells of " + name, readme.contains("- `" + name + "`"), true);
            }
        }
        CHECKS.due("README.md tells of .ci/run", readme.contains("\n.ci/run\n"), true);
    }
}
