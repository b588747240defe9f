import java.io.IOException;
import java.nio.charset.StandardCharsets;
import java.nio.file.Files;
import java.nio.file.Path;
import java.util.ArrayList;
import java.util.LinkedHashMap;
import java.util.LinkedHashSet;
import java.util.List;
import java.util.Map;
import java.util.Set;

/**
 * The document's sentences, by its headings ("Promise 1", "Tables"), and which of them a test has
 * quoted. So a test's name for what it tries cannot drift from what the document says, and a
 * sentence that no test names is told. Read from the project's root.
 */
public final class Document {
    private static final Path FILE = Path.of("..", "shared", "DOC.md");
    private static final Map<String, List<String>> SENTENCES = new LinkedHashMap<>();
    private static final Map<String, Set<String>> QUOTES = new LinkedHashMap<>();

    private Document() {
    }

    /** Fails if the sentence, or that part of one, is not the promise's; 0 is for all ahead of 1. */
    public static void quote(int promise, String part) {
        read();
        boolean said = false;
        for (String heading : SENTENCES.keySet()) {
            boolean ahead = !heading.startsWith("Promise ");
            if (promise == 0 ? ahead : heading.equals("Promise " + promise)) {
                said |= quoteUnder(heading, part);
            }
        }
        if (!said) {
            Check.fail("the document does not say: " + part);
        }
    }

    private static boolean quoteUnder(String heading, String part) {
        boolean said = false;
        for (String sentence : SENTENCES.get(heading)) {
            if (sentence.contains(part)) {
                QUOTES.computeIfAbsent(heading, key -> new LinkedHashSet<>()).add(sentence);
                said = true;
            }
        }
        return said;
    }

    /** Fails for each sentence under these headings of which no part was quoted. */
    public static void allQuoted(String... headings) {
        read();
        for (String heading : headings) {
            List<String> sentences = SENTENCES.getOrDefault(heading, List.of());
            if (sentences.isEmpty()) {
                Check.fail("the document has no heading " + heading);
            }
            for (String sentence : sentences) {
                if (!QUOTES.getOrDefault(heading, Set.of()).contains(sentence)) {
                    Check.fail(heading + ": no test of the sentence: " + sentence);
                }
            }
        }
    }

    private static void read() {
        if (!SENTENCES.isEmpty()) {
            return;
        }
        List<String> lines;
        try {
            lines = Files.readAllLines(FILE, StandardCharsets.UTF_8);
        } catch (IOException e) {
            throw new IllegalStateException("the document cannot be read: " + e);
        }
        String heading = "";
        for (String line : lines) {
            if (line.startsWith("#")) {
                heading = line.replaceFirst("^#+ ", "").replaceFirst("^(Promise \\d+):.*", "$1");
                SENTENCES.put(heading, new ArrayList<>());
            } else if (!line.isEmpty() && !line.startsWith("Ahead of the calls ")) {
                List<String> sentences = SENTENCES.get(heading);
                sentences.addAll(List.of(line.split("(?<=\\.|\\.\\))\\s+(?=[A-Z(`])")));
            }
        }
    }
}
