import java.lang.reflect.Constructor;
import java.lang.reflect.Field;
import java.lang.reflect.Method;
import java.lang.reflect.Modifier;
import java.nio.file.Path;
import java.util.ArrayList;
import java.util.Arrays;
import java.util.HashSet;
import java.util.List;
import java.util.Set;
import java.util.TreeSet;
import java.util.regex.Matcher;
import java.util.regex.Pattern;

/** The public face, as the document gives it, and rule 1 of LANGUAGE.md. */
public final class FaceTest {
    private static final String BOUNDS = " throws IndexOutOfBoundsException";
    private static final String ARGUMENT = "IllegalArgumentException";
    private static final String STATE = "IllegalStateException";
    private static final String[] FACE = {
        "int sale(int,int,int,int)" + BOUNDS + "," + ARGUMENT + "," + STATE,
        "int takeBack(int)" + BOUNDS + "," + STATE,
        "boolean turn(int)" + BOUNDS,
        "int sum(int,int,int)" + BOUNDS,
        "int sumFromSales(int,int,int)" + BOUNDS,
        "int embargo(int,int,int,int,int)" + BOUNDS + "," + ARGUMENT + "," + STATE,
        "int lift(int)" + BOUNDS + "," + STATE,
        "boolean isEmbargoed(int,int,int,int)" + BOUNDS,
        "int pass(int) throws " + ARGUMENT + "," + STATE,
        "int build(int,int)" + BOUNDS,
        "boolean isBuilt(int,int)" + BOUNDS,
        "int shown(int,int,int,int)" + BOUNDS + "," + STATE,
        "int why(int,int,int,int)" + BOUNDS,
        "int read(int,int)" + BOUNDS + "," + STATE,
        "int dropped()",
        "boolean mark(int,int)" + BOUNDS,
        "int clear()",
        "boolean isKnown(int,int)" + BOUNDS,
        "boolean isKnownBySolving(int,int)" + BOUNDS,
        "int cover()",
    };

    public static void main(String[] args) {
        constantsStand();
        methodsStand();
        nothingElseCanBeSeen();
        noPrivateMethodHasAPublicName();
        allIsWrittenAsInTheDocument();
        theCallsStandUnderTheirHeadings();
        Check.end();
    }

    private static void constantsStand() {
        Check.compare("NONE", -1, Pivotforge.NONE);
        Check.compare("HIDDEN", -1000000000, Pivotforge.HIDDEN);
        Check.compare("SHOWN", 0, Pivotforge.SHOWN);
        Check.compare("EMBARGOED", 1, Pivotforge.EMBARGOED);
        Check.compare("COVERED", 2, Pivotforge.COVERED);
        Check.compare("UNBUILT", 3, Pivotforge.UNBUILT);
        Set<String> names = new TreeSet<>();
        for (Field field : Pivotforge.class.getDeclaredFields()) {
            if (!Modifier.isPrivate(field.getModifiers())) {
                names.add(Modifier.toString(field.getModifiers()) + " " + field.getType() + " "
                        + field.getName());
            }
        }
        Set<String> due = new TreeSet<>();
        for (String name : "NONE HIDDEN SHOWN EMBARGOED COVERED UNBUILT".split(" ")) {
            due.add("public static final int " + name);
        }
        Check.compare("the constants", due, names);
    }

    private static void methodsStand() {
        Set<String> got = new TreeSet<>();
        for (Method method : Pivotforge.class.getDeclaredMethods()) {
            if (!Modifier.isPrivate(method.getModifiers())) {
                Check.compare(method + ", its modifiers", Modifier.PUBLIC, method.getModifiers());
                got.add(told(method));
            }
        }
        Check.compare("the methods", new TreeSet<>(Arrays.asList(FACE)), got);
    }

    private static String told(Method method) {
        StringBuilder text = new StringBuilder();
        text.append(method.getReturnType()).append(' ').append(method.getName());
        text.append(names(method.getParameterTypes(), "(", ")"));
        return text.append(method.getExceptionTypes().length == 0 ? ""
                : names(method.getExceptionTypes(), " throws ", "")).toString();
    }

    private static String names(Class<?>[] types, String before, String behind) {
        String[] names = new String[types.length];
        for (int i = 0; i < types.length; i++) {
            names[i] = types[i].getSimpleName();
        }
        return before + String.join(",", names) + behind;
    }

    private static void nothingElseCanBeSeen() {
        Check.compare("the class", Modifier.PUBLIC | Modifier.FINAL,
                Pivotforge.class.getModifiers());
        Constructor<?>[] constructors = Pivotforge.class.getDeclaredConstructors();
        Check.compare("constructors", 1, constructors.length);
        Check.compare("the constructor", "public Pivotforge()", constructors[0].toString());
        for (Class<?> inside : Pivotforge.class.getDeclaredClasses()) {
            int seen = inside.getModifiers() & (Modifier.PUBLIC | Modifier.PROTECTED);
            Check.compare(inside + " is not seen", 0, seen);
            Check.compare(inside + " is static", Modifier.STATIC,
                    inside.getModifiers() & Modifier.STATIC);
        }
    }

    private static void noPrivateMethodHasAPublicName() {
        Set<String> seen = new HashSet<>();
        for (Method method : Pivotforge.class.getDeclaredMethods()) {
            if (Modifier.isPublic(method.getModifiers())) {
                seen.add(method.getName());
            }
        }
        noneIsNamed(seen, Pivotforge.class);
        for (Class<?> inside : Pivotforge.class.getDeclaredClasses()) {
            noneIsNamed(seen, inside);
        }
    }

    private static void noneIsNamed(Set<String> seen, Class<?> one) {
        for (Method method : one.getDeclaredMethods()) {
            if (!Modifier.isPublic(method.getModifiers()) && seen.contains(method.getName())) {
                Check.fail(method + " bears the name of a public one");
            }
        }
    }

    /** 'The public face': its lines, with the names of what is told, in their order. */
    private static void allIsWrittenAsInTheDocument() {
        String document = Checkout.read(Path.of("..", "shared", "DOC.md"));
        Matcher face = Pattern.compile("```java\\n([\\s\\S]*?)```").matcher(document);
        if (!face.find()) {
            Check.fail("the document has no public face");
            return;
        }
        String source = spaced(Checkout.read(Path.of(Checkout.MAIN)));
        int at = 0;
        for (String line : face.group(1).split("\n")) {
            boolean isCall = line.contains("(");
            String due = isCall ? line.trim().replace(";", " {") : line.trim();
            int found = source.indexOf(due, at);
            if (found < 0) {
                Check.fail("not written, or not in the document's order: " + due);
            }
            at = Math.max(at, found);
        }
    }

    /** "Ahead of the calls .. the interface says: ---- sales and sums.", and so on. */
    private static void theCallsStandUnderTheirHeadings() {
        String document = Checkout.read(Path.of("..", "shared", "DOC.md"));
        Matcher said = Pattern.compile("(?m)^Ahead of the calls (.*) the interface says: (.*)\\.$")
                .matcher(document);
        List<String> due = new ArrayList<>();
        while (said.find()) {
            due.add("// " + said.group(2));
            due.addAll(List.of(said.group(1).replace("`", "").split(", ")));
        }
        List<String> got = new ArrayList<>();
        Matcher written = Pattern.compile("(?m)^    (?:(// ---- .*)|public \\w+ (\\w+)\\(.*)$")
                .matcher(Checkout.read(Path.of(Checkout.MAIN)));
        while (written.find()) {
            got.add(written.group(1) != null ? written.group(1) : written.group(2));
        }
        Check.compare("the document's headings and calls", 24, due.size());
        Check.compare("the headings and calls", due, got.subList(0, Math.min(24, got.size())));
    }

    private static String spaced(String text) {
        return text.replaceAll("\\s+", " ");
    }
}
