/** What issue 9 asks of .ci/run: it compiles the class, runs all tests, and fails if one fails. */
public final class CiTest {
    private static final String OWN = "src/test/java/OwnTest.java";
    private static final String SHARED = "../shared/tests/SharedRuns.java";

    public static void main(String[] args) {
        it("ends with 0 if all pass", 0, 2, 0, checkout -> { });
        it("fails if a test of the project fails", 1, 1, 1,
                checkout -> checkout.write(OWN, test("OwnTest", 0)));
        it("fails if a test under ../shared/tests fails", 1, 1, 1,
                checkout -> checkout.write(SHARED, test("SharedRuns", 0)));
        it("fails if a further one fails", 1, 2, 1, checkout -> checkout.write(
                "../shared/tests/Further.java", test("Further", -2)));
        it("fails if a test does not compile", 1, 1, 1,
                checkout -> checkout.write(OWN, "public final class OwnTest {"));
        it("compiles each with the class as it is", 1, 0, 2,
                checkout -> checkout.change(Checkout.MAIN, "NONE = -1", "NONE = -2"));
        stops("fails if the class does not compile",
                checkout -> checkout.change(Checkout.MAIN, "NONE = -1", "NONE = -1.0"));
        stops("fails if the class compiles with a warning",
                checkout -> checkout.change(Checkout.MAIN, "NONE = -1;",
                        "NONE = -1; private static final java.util.List MANY = null;"));
        itRunsAllThatIsThere();
        Check.end();
    }

    /** What is changed in a checkout in which all passes. */
    private interface Change {
        void in(Checkout checkout);
    }

    private static void it(String what, int code, int passed, int failed, Change change) {
        Checkout checkout = withTwoTests(change);
        Check.compare(".ci/run " + what, code, checkout.run(".ci/run"));
        String last = checkout.lines().get(checkout.lines().size() - 1);
        Check.compare(".ci/run " + what + ", its last line",
                passed + " passed, " + failed + " failed", last);
        checkout.delete();
    }

    private static void stops(String what, Change change) {
        Checkout checkout = withTwoTests(change);
        Check.compare(".ci/run " + what, 1, checkout.run(".ci/run"));
        Check.compare(".ci/run " + what + ", and says so", true,
                checkout.output().contains(Checkout.MAIN + " does not compile"));
        checkout.delete();
    }

    private static Checkout withTwoTests(Change change) {
        Checkout checkout = new Checkout();
        checkout.write("src/test/support/Nothing.java", "final class Nothing { }\n");
        checkout.write(OWN, test("OwnTest", -1));
        checkout.write(SHARED, test("SharedRuns", -1));
        change.in(checkout);
        return checkout;
    }

    /** Passes just if NONE is what is due. */
    private static String test(String name, int none) {
        return "public final class " + name + " {\n"
                + "    public static void main(String[] args) {\n"
                + "        new Pivotforge();\n"
                + "        System.exit(Pivotforge.NONE == " + none + " ? 0 : 1);\n"
                + "    }\n"
                + "}\n";
    }

    /** Without tests of one of both kinds it would have found the wrong folder. */
    private static void itRunsAllThatIsThere() {
        for (String missing : new String[] {OWN, SHARED}) {
            Checkout checkout = withTwoTests(made -> { });
            Check.compare(".ci/run without " + missing, 1,
                    checkout.run("rm " + missing + "; .ci/run"));
            checkout.delete();
        }
        Checkout checkout = withTwoTests(made -> { });
        Check.compare(".ci/run from another folder", 0, checkout.run("cd src; ../.ci/run"));
        for (String test : new String[] {OWN, SHARED}) {
            Check.compare("a line of " + test, true, checkout.lines().contains("ok      " + test));
        }
        checkout.delete();
    }
}
