import java.io.IOException;
import java.lang.reflect.Method;
import java.nio.file.Files;
import java.nio.file.Path;
import java.util.ArrayList;
import java.util.LinkedHashMap;
import java.util.List;
import java.util.Map;

/** What the tests of sentences quote stands in the document, and no word of its terms and promises is left out. */
public final class QuotesTest {
    private static final Path DOCUMENT = Path.of("..", "shared", "DOC.md");

    public static void main(String[] args) throws IOException {
        if (!Files.isReadable(DOCUMENT)) {
            System.out.println("no document at " + DOCUMENT + ": the quotes are not compared");
            return;
        }
        Map<String, String> parts = parts(Files.readString(DOCUMENT));
        Map<String, List<String>> quotes = quotes();
        quotes.forEach((part, said) -> said.forEach(quote ->
                Check.due(part + " says '" + quote + "'", parts.getOrDefault(part, "").contains(quote), true)));
        parts.forEach((part, text) -> {
            if (part.equals("Terms") || part.startsWith("Promise ")) {
                Check.due("without a test in " + part, leftOut(text, quotes.getOrDefault(part, List.of())), "");
            }
        });
        Check.due("promises", parts.keySet().stream().filter(p -> p.startsWith("Promise ")).count(), 14L);
        Check.end();
    }

    private static Map<String, List<String>> quotes() {
        Map<String, List<String>> quotes = new LinkedHashMap<>();
        for (Class<?> tests : Sentences.TESTS) {
            for (Method test : Sentences.of(tests)) {
                Sentence sentence = test.getAnnotation(Sentence.class);
                quotes.computeIfAbsent(sentence.in(), part -> new ArrayList<>()).add(sentence.says());
            }
        }
        return quotes;
    }

    /** The parts by their headings ("Promise 2" for "Promise 2: op"), without signatures and marks of form. */
    private static Map<String, String> parts(String document) {
        Map<String, String> parts = new LinkedHashMap<>();
        for (String part : document.split("(?m)^## ")) {
            int end = part.indexOf('\n');
            String heading = part.substring(0, end).replaceFirst(":.*", "").strip();
            String text = part.substring(end).replaceAll("```[a-z]*", " ");
            if (heading.startsWith("Promise ")) {
                text = text.replaceFirst("`[^`]*`:", " ");
            }
            parts.put(heading, text.replace("`", "").replaceAll("\\s+", " ").strip());
        }
        return parts;
    }

    private static String leftOut(String text, List<String> quotes) {
        StringBuilder left = new StringBuilder(text);
        for (String quote : quotes) {
            for (int at = text.indexOf(quote); at >= 0; at = text.indexOf(quote, at + 1)) {
                left.replace(at, at + quote.length(), " ".repeat(quote.length()));
            }
        }
        return left.toString().replaceAll("[^A-Za-z0-9]+", " ").strip();
    }
}
