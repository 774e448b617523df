import java.lang.reflect.Method;
import java.lang.reflect.Modifier;
import java.nio.file.Files;
import java.nio.file.Path;
import java.util.List;
import java.util.regex.Matcher;
import java.util.regex.Pattern;

/** Makes the calls of README.md's examples, so that what it tells stays true; run from the project's folder. */
final class ReadmeTest {
    private static final Pattern CALL = Pattern.compile("field\\.(\\w+)\\((.*)\\); *// (-?\\w+).*");

    private static int made = 0;

    public static void main(String[] args) throws ReflectiveOperationException, java.io.IOException {
        List<String> rows = Files.readAllLines(Path.of("README.md"));
        examples(rows);
        Check.due("all examples are found", 54, made);
        everyCallIsNamed(rows);
        Check.end();
    }

    private static void examples(List<String> rows) throws ReflectiveOperationException {
        boolean inside = false;
        SherdField field = null;
        for (String row : rows) {
            if (row.startsWith("```")) {
                inside = row.equals("```java");
            } else if (inside && row.startsWith("SherdField field = new SherdField();")) {
                field = new SherdField();
            } else if (inside) {
                make(field, row);
            }
        }
    }

    private static void make(SherdField field, String row) throws ReflectiveOperationException {
        Matcher call = CALL.matcher(row);
        if (!call.matches()) {
            Check.due("a call with its answer: " + row, 1, 0);
            return;
        }
        made++;
        Check.due(row, answerOf(call.group(3)), callOf(field, call.group(1), call.group(2)));
    }

    private static int callOf(SherdField field, String name, String list) throws ReflectiveOperationException {
        String[] texts = list.isEmpty() ? new String[0] : list.split(", ");
        Object[] arguments = new Object[texts.length];
        Class<?>[] types = new Class<?>[texts.length];
        for (int i = 0; i < texts.length; i++) {
            arguments[i] = Integer.decode(texts[i]);
            types[i] = int.class;
        }
        return (Integer) SherdField.class.getMethod(name, types).invoke(field, arguments);
    }

    private static int answerOf(String text) throws ReflectiveOperationException {
        boolean number = text.matches("-?\\d+");
        return number ? Integer.parseInt(text) : SherdField.class.getField(text).getInt(null);
    }

    private static void everyCallIsNamed(List<String> rows) {
        for (Method method : SherdField.class.getDeclaredMethods()) {
            if (Modifier.isPublic(method.getModifiers())) {
                String name = "`" + method.getName() + "`";
                long named = rows.stream().filter(row -> row.startsWith("| ") && row.contains(name)).count();
                Check.due(name + " stands once in the list of calls", 1, (int) named);
            }
        }
    }
}
