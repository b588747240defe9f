import java.io.IOException;
import java.nio.charset.StandardCharsets;
import java.nio.file.Files;
import java.nio.file.Path;
import java.util.regex.Matcher;
import java.util.regex.Pattern;

/**
 * Those rules of LANGUAGE.md that the text of the class can tell; run from the project's root.
 * What only a reader can tell (that loops end, that indices are looked at) is not here.
 */
public final class LanguageTest {
    private static final Path SOURCE = Path.of("src", "main", "java", "Pivotforge.java");
    private static final int MOST_LINES_OF_A_METHOD = 60;
    private static final int MOST_CLASSES = 12;
    private static final int MOST_PARAMETERS = 7;
    private static final String[][] FORBIDDEN = {
        {"1", "^\\s*package\\b", "a package line"},
        {"2", "->|::", "a lambda or a method reference"},
        {"4", "^\\s*import\\b(?!\\s+java\\.util\\.)", "a library that is not listed"},
        {"4", "\\w+Exact\\b", "a function whose name ends in Exact"},
        {"5", "\\bstatic\\s*\\{", "a static initialiser"},
        {"5", "(?m)^\\s*(private |public )?static (?!final )[\\w\\[\\]]+ \\w+\\s*(=|;)",
            "a static field that is not final"},
        {"6", "\\b(finally|synchronized|assert|try|catch)\\b", "a word of rule 6"},
        {"6", "\\bthrow (?!new (IndexOutOfBounds|IllegalArgument|IllegalState)Exception\\()",
            "an exception that the document does not name"},
        {"6", "\\b(equals|hashCode|toString)\\s*\\(", "an own equals, hashCode or toString"},
        {"9", "\\b(while|do)\\b", "a loop without a counter"},
        {"13", "\\b(System\\.(?!arraycopy\\()|Random|Thread|Math\\.random)", "the world outside"},
    };

    public static void main(String[] args) throws IOException {
        String text = Files.readString(SOURCE, StandardCharsets.UTF_8);
        for (int i = 0; i < text.length(); i++) {
            if (text.charAt(i) > 126) {
                Check.fail("a sign beyond 126 at " + i);
            }
        }
        String code = withoutCommentsAndTexts(text);
        for (String[] rule : FORBIDDEN) {
            Matcher found = Pattern.compile(rule[1], Pattern.MULTILINE).matcher(code);
            while (found.find()) {
                Check.fail("rule " + rule[0] + ": " + rule[2] + ", at line "
                        + lineOf(code, found.start()));
            }
        }
        constructorsThrowNothing(code);
        methodsAreShort(code);
        classesAreFew(code);
        Check.end();
    }

    /** Lines stay where they are. */
    private static String withoutCommentsAndTexts(String text) {
        Matcher found = Pattern.compile("\"(\\\\.|[^\"\\\\])*\"|//[^\\n]*|/\\*[\\s\\S]*?\\*/")
                .matcher(text);
        return found.replaceAll(match -> match.group().startsWith("\"") ? "\"\""
                : match.group().replaceAll("[^\\n]", " "));
    }

    private static int lineOf(String code, int at) {
        return (int) code.substring(0, at).chars().filter(c -> c == '\n').count() + 1;
    }

    private static void constructorsThrowNothing(String code) {
        Matcher found = Pattern.compile("(?m)^( +)(public |private )?[A-Z]\\w*\\([^)]*\\) \\{\\n"
                + "([\\s\\S]*?)^\\1\\}").matcher(code);
        int count = 0;
        while (found.find()) {
            count++;
            if (found.group(3).contains("throw ")) {
                Check.fail("rule 6: a throw in a constructor");
            }
        }
        if (count == 0) {
            Check.fail("no constructor was found");
        }
    }

    private static void methodsAreShort(String code) {
        Matcher found = Pattern.compile("(?m)^( +)(public |private |static |final )*[\\w\\[\\]]+ "
                + "\\w+\\(([^)]*)\\)[^;{]*\\{\\n([\\s\\S]*?)^\\1\\}").matcher(code);
        int count = 0;
        while (found.find()) {
            count++;
            if (found.group(4).lines().count() > MOST_LINES_OF_A_METHOD) {
                Check.fail("rule 11: a long method at line " + lineOf(code, found.start()));
            }
            if (found.group(3).split(",").length > MOST_PARAMETERS) {
                Check.fail("rule 11: many parameters at line " + lineOf(code, found.start()));
            }
        }
        if (count < 20) {
            Check.fail("only " + count + " methods were found");
        }
    }

    private static void classesAreFew(String code) {
        Matcher found = Pattern.compile("\\b(class|enum|interface|record) [A-Z]").matcher(code);
        int count = 0;
        while (found.find()) {
            count++;
        }
        if (count < 1 || count > MOST_CLASSES) {
            Check.fail("rule 11: " + count + " classes");
        }
    }
}
