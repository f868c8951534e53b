import java.io.IOException;
import java.lang.reflect.Constructor;
import java.lang.reflect.Field;
import java.lang.reflect.Method;
import java.lang.reflect.Modifier;
import java.nio.file.Files;
import java.nio.file.Path;
import java.util.Arrays;
import java.util.Map;
import java.util.TreeMap;
import java.util.TreeSet;
import java.util.regex.Pattern;

/** The public face of the document, and what LANGUAGE.md leaves out that can be seen from the words of the file. */
public final class FaceTest {
    private static final Due due = new Due();
    private static final Map<String, Integer> PARAMETERS = new TreeMap<>(Map.ofEntries(
        Map.entry("say", 1), Map.entry("wipe", 0), Map.entry("name", 2), Map.entry("split", 3),
        Map.entry("merge", 3), Map.entry("shift", 4), Map.entry("undo", 0), Map.entry("event", 2),
        Map.entry("at", 2), Map.entry("sites", 2), Map.entry("letter", 3), Map.entry("sound", 3),
        Map.entry("parish", 2), Map.entry("find", 4), Map.entry("called", 5), Map.entry("off", 2),
        Map.entry("span", 3), Map.entry("heirs", 3), Map.entry("image", 1), Map.entry("restore", 1),
        Map.entry("count", 1)));
    private static final Map<String, Integer> CONSTANTS = new TreeMap<>(Map.of(
        "UNKNOWN", -1, "OUTSIDE", -2, "STATE", -3, "FULL", -4, "NO", -5, "NONE", -6, "FAULT", -7));

    public static void main(String[] args) throws Exception {
        due.is("the class is public and final", ParishNames.class.getModifiers(), Modifier.PUBLIC | Modifier.FINAL);
        constants();
        methods();
        constructors();
        nested();
        words(args.length > 0 ? args[0] : "src/main/java/ParishNames.java");
        due.end("FaceTest");
    }

    private static void constants() throws Exception {
        TreeSet<String> seen = new TreeSet<>();
        for (Field field : ParishNames.class.getDeclaredFields()) {
            if (Modifier.isPrivate(field.getModifiers())) continue;
            seen.add(field.getName());
            due.is(field.getName() + " is public static final", field.getModifiers(),
                Modifier.PUBLIC | Modifier.STATIC | Modifier.FINAL);
            due.is(field.getName(), field.getInt(null), CONSTANTS.getOrDefault(field.getName(), 0));
        }
        due.is("the constants " + seen, seen.equals(CONSTANTS.keySet()) ? 1 : 0, 1);
    }

    private static void methods() {
        TreeMap<String, Integer> seen = new TreeMap<>();
        for (Method method : ParishNames.class.getDeclaredMethods()) {
            if (Modifier.isPrivate(method.getModifiers())) {
                due.is("private " + method.getName() + " is of the face", PARAMETERS.containsKey(method.getName()) ? 1 : 0, 0);
                continue;
            }
            due.is(method.getName() + " is public alone", method.getModifiers(), Modifier.PUBLIC);
            boolean ints = method.getReturnType() == int.class
                && Arrays.stream(method.getParameterTypes()).allMatch(type -> type == int.class);
            due.is(method.getName() + " takes and answers int", ints ? 1 : 0, 1);
            seen.put(method.getName(), method.getParameterCount());
        }
        due.is("the methods " + seen, seen.equals(PARAMETERS) ? 1 : 0, 1);
    }

    private static void constructors() {
        Constructor<?>[] all = ParishNames.class.getDeclaredConstructors();
        due.is("constructors", all.length, 1);
        due.is("it is public", all[0].getModifiers(), Modifier.PUBLIC);
        due.is("it takes nothing", all[0].getParameterCount(), 0);
    }

    private static void nested() {
        for (Class<?> inside : ParishNames.class.getDeclaredClasses()) {
            due.is(inside + " is static", Modifier.isStatic(inside.getModifiers()) ? 1 : 0, 1);
            due.is(inside + " is public", Modifier.isPublic(inside.getModifiers()) ? 1 : 0, 0);
            for (Method method : inside.getDeclaredMethods()) {
                due.is(method + " bears a name of the face", PARAMETERS.containsKey(method.getName()) ? 1 : 0, 0);
                due.is(method + " takes at most seven", method.getParameterCount() <= 7 ? 1 : 0, 1);
            }
        }
    }

    private static void words(String file) throws IOException {
        String text = Files.readString(Path.of(file));
        String code = text.replaceAll("(?s)/\\*.*?\\*/", " ").replaceAll("//[^\n]*", " ");
        String[] none = {
            "throw", "throws", "try", "catch", "finally", "synchronized", "assert", "import", "package", "System\\.(?!arraycopy)",
            "Thread", "Object", "hashCode", "toString", "\\w+Exact", "->", "::", "volatile", "native", "static\\s*\\{",
        };
        for (String word : none) {
            String pattern = Character.isLetter(word.charAt(0)) ? "\\b" + word + (word.endsWith(")") || word.endsWith("{") ? "" : "\\b") : word;
            due.is("LANGUAGE.md leaves out " + word, Pattern.compile(pattern).matcher(code).find() ? 1 : 0, 0);
        }
        due.is("signs are 1 to 127", text.chars().allMatch(sign -> sign >= 1 && sign <= 127) ? 1 : 0, 1);
    }
}
