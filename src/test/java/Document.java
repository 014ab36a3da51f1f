import java.io.IOException;
import java.nio.charset.StandardCharsets;
import java.nio.file.Files;
import java.nio.file.Path;
import java.util.ArrayList;
import java.util.List;

/** The document's sentences, as the tests name them. */
final class Document {
    static final int PROMISES = 45;
    // A heading stands ahead of its sentences as "Log and protests.", and no sentence is as short.
    private static final int HEADING_WORDS = 3;
    private static final Path PLACE = Path.of("..", "shared", "DOC.md");

    private final List<String> terms = new ArrayList<>();
    private final List<List<String>> promises = new ArrayList<>();

    static boolean isThere() {
        return Files.isReadable(PLACE);
    }

    Document() throws IOException {
        for (int i = 0; i <= PROMISES; i++) {
            promises.add(new ArrayList<>());
        }
        String section = "";
        for (String line : Files.readAllLines(PLACE, StandardCharsets.UTF_8)) {
            if (line.startsWith("## ")) {
                section = line.substring(3);
            } else if (section.equals("Terms")) {
                addTerms(line);
            } else if (section.startsWith("Promise ") && !line.isBlank()) {
                promises.get(Integer.parseInt(section.replaceAll("Promise (\\d+):.*", "$1"))).add(plain(line));
            }
        }
    }

    /** Without the head that repeats the call, the mark of a list and the quotes. */
    private static String plain(String line) {
        return line.replaceAll("^`[^`]*\\)[^`]*`: (\\* )?", "").replaceAll("^- ", "").replace("`", "").trim();
    }

    private void addTerms(String line) {
        if (line.startsWith("Ahead of ")) {
            return;
        }
        for (String sentence : line.split("(?<=\\.) (?=[A-Z])")) {
            boolean isHeading = sentence.split(" ").length <= HEADING_WORDS;
            if (!isHeading) {
                terms.add(sentence.trim());
            }
        }
    }

    List<String> terms() {
        return terms;
    }

    List<String> promise(int number) {
        return promises.get(number);
    }

    boolean has(int promise, String words) {
        return contains(promises.get(promise), words) || contains(terms, words);
    }

    private static boolean contains(List<String> sentences, String words) {
        for (String sentence : sentences) {
            if (sentence.contains(words)) {
                return true;
            }
        }
        return false;
    }

    int countThrows(int promise) {
        int found = 0;
        for (String sentence : promises.get(promise)) {
            found += sentence.startsWith("Throws ") ? 1 : 0;
        }
        return found;
    }
}
