import java.io.IOException;
import java.lang.reflect.Constructor;
import java.lang.reflect.Field;
import java.lang.reflect.Method;
import java.lang.reflect.Modifier;
import java.nio.file.Files;
import java.nio.file.Path;
import java.util.Arrays;
import java.util.List;
import java.util.Set;
import java.util.TreeSet;
import java.util.regex.Matcher;
import java.util.regex.Pattern;

/** The rules of LANGUAGE.md that can be seen in the class and its source, run from the project's folder. */
final class LanguageTest {
    private static final String[] FACE = {
        "field 2", "sort 2", "isOf 2", "walk 2", "find 4", "told 2", "of 2", "count 2", "gap 0", "led 2",
        "pair 3", "eye 1", "corrected 2", "worth 2", "greatest 0", "heap 2", "spade 2", "rule 2",
        "plough 2", "profile 3", "mixed 1", "feed 3", "trim 1", "leave 0", "withdraw 1", "lets 3",
        "days 1", "sheet 2", "mark 3", "copy 5", "lose 1", "many 1",
    };
    private static final Set<String> CONSTANTS =
        Set.of("BAD", "NO", "FULL", "NONE", "NOTHING", "INDEX", "SIZE");

    private static int wrong = 0;

    public static void main(String[] args) throws IOException {
        face();
        classesInside();
        source(Files.readString(Path.of("src/main/java/SherdField.java")));
        System.out.println(wrong + " rules broken");
        if (wrong != 0) {
            System.exit(1);
        }
    }

    private static void must(boolean holds, String rule) {
        if (!holds) {
            wrong++;
            System.out.println("broken: " + rule);
        }
    }

    private static void face() {
        Class<?> type = SherdField.class;
        must(Modifier.isPublic(type.getModifiers()) && Modifier.isFinal(type.getModifiers()), "public and final");
        Set<String> found = new TreeSet<>();
        for (Method method : type.getDeclaredMethods()) {
            if (Modifier.isPublic(method.getModifiers())) {
                found.add(method.getName() + " " + method.getParameterCount());
                must(method.getReturnType() == int.class, method + " answers an int");
                must(!Modifier.isStatic(method.getModifiers()), method + " is not static");
                must(Arrays.stream(method.getParameterTypes()).allMatch(t -> t == int.class), method + " takes ints");
            } else {
                must(Modifier.isPrivate(method.getModifiers()), method + " is private");
            }
        }
        must(found.equals(new TreeSet<>(List.of(FACE))), "the face is the document's: " + found);
        Constructor<?>[] constructors = type.getDeclaredConstructors();
        must(constructors.length == 1 && Modifier.isPublic(constructors[0].getModifiers())
            && constructors[0].getParameterCount() == 0, "one public constructor");
        for (Field field : type.getDeclaredFields()) {
            if (CONSTANTS.contains(field.getName())) {
                must(Modifier.isPublic(field.getModifiers()), field + " is public");
            } else {
                must(Modifier.isPrivate(field.getModifiers()), field + " is private");
            }
        }
    }

    private static void classesInside() {
        Set<String> names = new TreeSet<>();
        for (String call : FACE) {
            names.add(call.substring(0, call.indexOf(' ')));
        }
        Class<?>[] inside = SherdField.class.getDeclaredClasses();
        must(inside.length < 12, "some twelve classes");
        for (Class<?> type : inside) {
            must(Modifier.isStatic(type.getModifiers()) && Modifier.isPrivate(type.getModifiers()),
                type + " is private and static");
            for (Method method : type.getDeclaredMethods()) {
                must(!names.contains(method.getName()), method + " bears a name of the face");
                must(method.getParameterCount() <= 7, method + " takes seven at most");
            }
            int fields = 0;
            for (Field field : type.getDeclaredFields()) {
                boolean isStatic = Modifier.isStatic(field.getModifiers());
                must(!isStatic || Modifier.isFinal(field.getModifiers()), field + " is final");
                fields += isStatic ? 0 : 1;
            }
            must(fields <= 20, type + " has some twenty fields");
        }
        for (Method method : SherdField.class.getDeclaredMethods()) {
            must(Modifier.isPublic(method.getModifiers()) || !names.contains(method.getName()),
                method + " bears a name of the face");
        }
    }

    private static void source(String text) {
        must(text.chars().allMatch(sign -> sign == '\n' || (sign >= 32 && sign < 127)), "plain signs alone");
        String code = text.replaceAll("(?s)/\\*.*?\\*/", "").replaceAll("//[^\n]*", "");
        for (String word : List.of("throw", "throws", "try", "catch", "assert", "synchronized", "package", "Object",
            "hashCode", "toString", "Random", "Thread", "System\\.out", "System\\.nanoTime", "\\w+Exact")) {
            must(!Pattern.compile("\\b" + word + "\\b").matcher(code).find(), "no " + word);
        }
        must(!code.contains("->") && !code.contains("::"), "no lambda, no method reference");
        for (String row : code.split("\n")) {
            must(!row.startsWith("import ") || row.equals("import java.util.Arrays;"), row);
            // What a call makes stays in the room to the end of the run, so calls make nothing.
            boolean making = row.contains("new ");
            boolean inConstructor = row.matches(" {8}\\w+ = new (Eyes|Heaps|LeaveReader)\\(.*\\);");
            must(!making || row.matches(" +private .*") || inConstructor, "made in a constructor: " + row.trim());
        }
        methodsAreShort(code);
    }

    private static void methodsAreShort(String code) {
        Matcher method = Pattern.compile("\n( +)[\\w ]+\\([^;{}]*\\) \\{\n(.*?)\n\\1\\}", Pattern.DOTALL).matcher(code);
        int found = 0;
        int from = 0;
        while (method.find(from)) {
            found++;
            must(method.group(2).split("\n").length <= 58, "short: " + method.group().trim().split("\n")[0]);
            from = method.end();
        }
        must(found > 100, "methods are found: " + found);
    }
}
