import java.io.IOException;
import java.nio.file.Files;
import java.nio.file.Path;
import java.util.ArrayList;
import java.util.LinkedHashMap;
import java.util.List;
import java.util.Map;
import java.util.function.Consumer;

/**
 * The tests of the document's sentences. Each test is entered under the words that it holds to; the
 * book compares these words with the document, so that none is misquoted and none is left out.
 */
final class Book {
    /** A test of its own for some words of a section. */
    record Entry(String section, String words, Consumer<Check> test) {
        String title() {
            return section + " \"" + words + "\"";
        }
    }

    private static final Path DOCUMENT = Path.of("../shared/DOC.md");

    private final List<Entry> entries = new ArrayList<>();
    private final Map<String, List<String>> quotes = new LinkedHashMap<>();
    private String section = "";

    /** What is entered next stands in this section. */
    void section(String name) {
        section = name;
        quotes.putIfAbsent(name, new ArrayList<>());
    }

    void test(String words, Consumer<Check> test) {
        quotes.get(section).add(words);
        entries.add(new Entry(section, words, test));
    }

    /** Words that name no case: a title, or what a later sentence says more precisely. */
    void plain(String words) {
        quotes.get(section).add(words);
    }

    List<Entry> entries() {
        return entries;
    }

    /** Every quote stands in its section, and every word of the document is quoted. */
    void compareWithDocument(Check check) throws IOException {
        if (!Files.isRegularFile(DOCUMENT)) {
            System.out.println("no " + DOCUMENT + " here: the quotes are not compared with it");
            return;
        }
        Map<String, String> document = sectionsOf(Files.readAllLines(DOCUMENT));
        for (String name : quotes.keySet()) {
            check.due("section \"" + name + "\" in the document", document.containsKey(name) ? 1 : 0, 1);
        }
        for (Map.Entry<String, String> part : document.entrySet()) {
            List<String> quoted = quotes.getOrDefault(part.getKey(), List.of());
            String rest = strikeOut(part.getKey(), part.getValue(), quoted, check);
            check.due(part.getKey() + " is quoted but for \"" + rest + "\"", rest.isEmpty() ? 1 : 0, 1);
        }
    }

    private static String strikeOut(String name, String text, List<String> quoted, Check check) {
        StringBuilder open = new StringBuilder(text);
        for (String words : quoted) {
            int at = open.indexOf(words);
            if (at < 0) {
                // Several tests may hold to the same words.
                check.due(name + " says \"" + words + "\"", text.contains(words) ? 1 : 0, 1);
            } else {
                open.replace(at, at + words.length(), "|".repeat(words.length()));
            }
        }
        return open.toString().replaceAll("[|;.,\\s-]+", " ").strip();
    }

    /** The sections without markup; signatures and the face are left to FaceTest. */
    private static Map<String, String> sectionsOf(List<String> lines) {
        Map<String, String> sections = new LinkedHashMap<>();
        String name = "";
        for (String line : lines) {
            if (line.startsWith("## ") || line.startsWith("<h2>")) {
                name = line.replaceAll("<[^>]+>|^## ", "").replaceAll("^(Promise \\d+):.*", "$1");
            } else if (!line.startsWith("# ") && !line.startsWith("`") && !name.equals("The public face")) {
                String words = line.replaceAll("<[^>]+>", " ").replace("`", "");
                sections.merge(name, words, (before, more) -> before + " " + more);
            }
        }
        sections.replaceAll((title, text) -> text.replaceAll("\\s+", " ").strip());
        sections.values().removeIf(String::isEmpty);
        return sections;
    }
}
