import java.lang.reflect.Method;
import java.lang.reflect.Modifier;
import java.nio.file.Path;
import java.util.ArrayList;
import java.util.List;
import java.util.regex.Matcher;
import java.util.regex.Pattern;

/** README.md: what is printed there compiles, runs, and answers as it says; its tests are all. */
public final class ReadmeTest {
    private static final Path README = Path.of("README.md");
    private static final Path TESTS = Path.of("src", "test", "java");
    private static final String PROGRAM = "YourProgram";

    public static void main(String[] args) {
        String page = Checkout.read(README);
        List<String> programs = blocks(page, "java");
        List<String> commands = blocks(page, "sh");
        Check.compare("README.md, its programs", 1, programs.size());
        Check.compare("README.md, its commands", 3, commands.size());
        if (programs.size() == 1 && commands.size() == 3) {
            theProgramAnswersAsItSays(programs.get(0), commands.get(0));
            theProgramUsesTheWholeFace(programs.get(0));
            allTestsRunAsItSays(commands.get(1));
            oneTestRunsAsItSays(commands.get(2));
        }
        allTestsAreNamed(page);
        Check.end();
    }

    /** No code stands on the page but in blocks that are tried here. */
    private static List<String> blocks(String page, String language) {
        List<String> blocks = new ArrayList<>();
        Matcher found = Pattern.compile("(?m)^```(\\w*)\\n([\\s\\S]*?)^```$").matcher(page);
        while (found.find()) {
            if (found.group(1).equals(language)) {
                blocks.add(found.group(2));
            } else if (!found.group(1).matches("java|sh")) {
                Check.fail("README.md has a block of \"" + found.group(1) + "\"");
            }
        }
        Matcher indented = Pattern.compile("(?m)^(    |\\t).*$").matcher(found.replaceAll(""));
        while (indented.find()) {
            Check.fail("README.md has code that is in no block: " + indented.group());
        }
        return blocks;
    }

    private static void theProgramAnswersAsItSays(String program, String commands) {
        Checkout checkout = new Checkout();
        checkout.write(PROGRAM + ".java", program);
        runs(checkout, commands);
        List<String> due = answersTold(program);
        List<String> got = checkout.lines();
        Check.compare("README.md, how many answers", due.size(), got.size());
        for (int i = 0; i < Math.min(due.size(), got.size()); i++) {
            Check.compare("README.md, answer " + (i + 1), due.get(i), got.get(i));
        }
        checkout.delete();
    }

    /** The program goes straight on, so that it prints in the order of its lines. */
    private static List<String> answersTold(String program) {
        List<String> answers = new ArrayList<>();
        for (String line : program.split("\n")) {
            if (line.trim().startsWith("print(")) {
                Matcher told = Pattern.compile("; // ([^:]+)(: .*)?$").matcher(line);
                if (told.find()) {
                    answers.add(told.group(1));
                } else {
                    Check.fail("README.md tells no answer of:" + line);
                }
            }
        }
        return answers;
    }

    private static void theProgramUsesTheWholeFace(String program) {
        for (Method method : Pivotforge.class.getDeclaredMethods()) {
            if (Modifier.isPublic(method.getModifiers())) {
                Check.compare("README.md uses " + method.getName(), true,
                        program.contains("house." + method.getName() + "("));
            }
        }
    }

    /** With two of the tests, as all of them would run this one again. */
    private static void allTestsRunAsItSays(String commands) {
        Checkout checkout = withTests();
        checkout.copy("src/test/java/DeskTest.java");
        checkout.copy("../shared/tests");
        runs(checkout, commands);
        int tests = 2;
        for (String shared : Checkout.names(Path.of("..", "shared", "tests"))) {
            tests += shared.endsWith(".java") ? 1 : 0;
        }
        List<String> lines = checkout.lines();
        for (String test : new String[] {"DeskTest", "SalesTest"}) {
            Check.compare("README.md, a line of " + test, true,
                    lines.contains("ok      src/test/java/" + test + ".java"));
        }
        Check.compare("README.md, the last line of " + commands,
                tests + " passed, 0 failed", lines.get(lines.size() - 1));
        checkout.change(Checkout.MAIN, "MOST_SALES = 120", "MOST_SALES = 119");
        Check.compare("README.md, the exit code if one fails", 1, checkout.run(commands));
        Check.compare("README.md, the line if one fails", true,
                checkout.lines().contains("FAILED  src/test/java/SalesTest.java"));
        checkout.delete();
    }

    private static void oneTestRunsAsItSays(String commands) {
        Checkout checkout = withTests();
        runs(checkout, commands);
        Check.compare("README.md, what is printed by " + commands, "", checkout.output());
        checkout.change(Checkout.MAIN, "MOST_SALES = 120", "MOST_SALES = 119");
        Check.compare("README.md, the exit code if it fails", 1, checkout.run(commands));
        checkout.delete();
    }

    private static void runs(Checkout checkout, String commands) {
        int code = checkout.run(commands);
        Check.compare("README.md, the exit code of " + commands, 0, code);
        if (code != 0) {
            System.out.println(checkout.output() + checkout.errors());
        }
    }

    private static Checkout withTests() {
        Checkout checkout = new Checkout();
        checkout.copy("src/test/support");
        checkout.copy("src/test/java/SalesTest.java");
        checkout.copy("../shared/DOC.md");
        return checkout;
    }

    private static void allTestsAreNamed(String page) {
        List<String> named = new ArrayList<>();
        Matcher row = Pattern.compile("(?m)^\\| `(\\w+)` \\|").matcher(page);
        while (row.find()) {
            named.add(row.group(1) + ".java");
        }
        named.sort(null);
        Check.compare("README.md, the tests", Checkout.names(TESTS), named);
    }
}
