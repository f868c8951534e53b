import java.io.IOException;
import java.lang.reflect.Method;
import java.lang.reflect.Modifier;
import java.nio.file.Files;
import java.nio.file.Path;
import java.util.HashMap;
import java.util.Map;
import java.util.regex.Matcher;
import java.util.regex.Pattern;

/** README.md: each line of its example answers what is written behind it, and no call or constant is left out. */
public final class ReadmeTest {
    private static final Due due = new Due();
    private static final Pattern CALL = Pattern.compile("x\\.(\\w+)\\(([^)]*)\\);");
    private static final Pattern ANSWER = Pattern.compile("// (-?\\d+)");
    private static final Map<String, Method> calls = new HashMap<>();

    public static void main(String[] args) throws IOException, ReflectiveOperationException {
        String page = Files.readString(Path.of("README.md"));
        for (Method method : ParishNames.class.getDeclaredMethods()) {
            if (Modifier.isPublic(method.getModifiers())) calls.put(method.getName(), method);
        }
        for (String call : calls.keySet()) due.is("README.md names " + call, page.contains("`" + call + "`") ? 1 : 0, 1);
        for (var constant : ParishNames.class.getFields()) {
            String words = "`" + constant.getName() + "` " + constant.getInt(null);
            due.is("README.md names " + words, page.contains(words) ? 1 : 0, 1);
        }
        runExample(page);
        due.end("ReadmeTest");
    }

    private static void runExample(String page) throws ReflectiveOperationException {
        ParishNames x = new ParishNames();
        String[] parts = page.split("```java\n|```");
        int lines = 0;
        for (String line : parts.length > 1 ? parts[1].split("\n") : new String[0]) {
            Matcher call = CALL.matcher(line);
            int got = 0, made = 0;
            for (; call.find(); made++) got = make(x, call.group(1), call.group(2));
            if (made == 0) continue;
            Matcher answer = ANSWER.matcher(line);
            boolean told = answer.find();
            due.is("an answer is told: " + line, told ? 1 : 0, 1);
            if (told) due.is(line, got, Integer.parseInt(answer.group(1)));
            lines++;
        }
        due.is("README.md has an example", lines > 0 ? 1 : 0, 1);
    }

    private static int make(ParishNames x, String name, String list) throws ReflectiveOperationException {
        String[] words = list.isEmpty() ? new String[0] : list.split(", ");
        Object[] values = new Object[words.length];
        for (int k = 0; k < words.length; k++) values[k] = valueOf(words[k]);
        return (int) calls.get(name).invoke(x, values);
    }

    private static int valueOf(String word) {
        if (word.startsWith("'")) return word.charAt(1);
        return word.startsWith("0b") ? Integer.parseInt(word.substring(2), 2) : Integer.parseInt(word);
    }
}
