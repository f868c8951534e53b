import java.io.IOException;
import java.nio.file.Files;
import java.nio.file.Path;
import java.util.HashMap;
import java.util.Map;

/** Every quote of a test stands in the document, once under its head, and no words of it are without a test. */
public final class DocumentTest extends Sentences {
    private static final Due due = new Due();
    /** What tells nothing of its own: an overview of the calls, and between which calls the interface's heads stand. */
    private static final String[] NOT_TESTED = {
        "Names of places over time\\.", "what later calls answer is free\\.", "Twelve sites belong to parishes;.*?can be undone\\.",
        "Ahead of the calls .*? says: ---- \\d [a-z, ]*\\.", "The constants:", "======== \\d",
    };

    public static void main(String[] args) throws IOException {
        TermsTest.all();
        RefusalsTest.all();
        EventsTest.all();
        WhenTest.all();
        LettersTest.all();
        SpansTest.all();
        ImagesTest.all();
        Path document = Path.of("../shared/DOC.md");
        if (!Files.exists(document)) {
            System.out.println("DocumentTest: there is no " + document + " to hold the quotes against");
            return;
        }
        Map<Integer, String> heads = heads(Files.readString(document));
        due.is("heads with sentences", heads.size(), 24);
        Map<Integer, StringBuilder> left = new HashMap<>();
        heads.forEach((head, text) -> left.put(head, new StringBuilder(text)));
        for (Quote quote : quotes) strike(quote, heads.getOrDefault(quote.promise(), ""), left.get(quote.promise()));
        left.forEach((head, text) -> due.is(head + " says, without a test: " + words(text), words(text).length(), 0));
        due.end("DocumentTest: " + quotes.size() + " tests");
    }

    private static void strike(Quote quote, String text, StringBuilder left) {
        int from = text.indexOf(quote.words());
        due.is(quote + " stands in the document", from >= 0 ? 1 : 0, 1);
        if (from < 0) return;
        due.is(quote + " stands there again", text.indexOf(quote.words(), from + 1) >= 0 ? 1 : 0, 0);
        for (int k = from; k < from + quote.words().length(); k++) left.setCharAt(k, ' ');
    }

    private static String words(StringBuilder text) {
        return text.toString().replaceAll("[^A-Za-z0-9]+", " ").trim();
    }

    /** The text under each head, on one line, without what is written as code. */
    private static Map<Integer, String> heads(String document) {
        Map<Integer, String> heads = new HashMap<>();
        for (String part : document.split("(?m)^## ")) {
            int end = part.indexOf('\n');
            String head = end < 0 ? part : part.substring(0, end);
            int number = head.startsWith("Promise ") ? Integer.parseInt(head.replaceAll("\\D+", " ").trim().split(" ")[0])
                : head.equals("Terms") ? TERMS : head.equals("What it is") ? WHAT_IT_IS : LEAST;
            if (number == LEAST) continue;
            String text = part.substring(end).replace("```text", " ").replace("```", " ").replaceAll("`[^`]*`", " ").replaceAll("\\s+", " ");
            for (String none : NOT_TESTED) text = text.replaceAll(none, " ");
            heads.put(number, text);
        }
        return heads;
    }
}
