import java.io.IOException;
import java.util.LinkedHashMap;
import java.util.Map;

/** .ci/run: it runs every test there is, and fails if one fails. */
public final class ScriptTest {
    private static final String OWN = "src/test/java/";
    private static final String SHARED = "../shared/tests/";

    private final Map<String, Checkout> begun = new LinkedHashMap<>();
    private final Map<String, Boolean> passes = new LinkedHashMap<>();

    public static void main(String[] args) throws Exception {
        if (!Checkout.isInside()) {
            new ScriptTest().all();
        }
        Due.is("the script can be run", java.nio.file.Files.isExecutable(
                java.nio.file.Path.of(".ci/run")) ? 1 : 0, 1);
        Due.end();
    }

    private void all() throws Exception {
        begin("all is well", true, withOwn().put(SHARED + "Runs.java", test("Runs", 0)));
        begin("one of several tests of the project fails", false, withOwn()
                .put(OWN + "AnotherTest.java", test("AnotherTest", 1))
                .put(OWN + "ThirdTest.java", test("ThirdTest", 0))
                .put(SHARED + "Runs.java", test("Runs", 0)));
        begin("one of several shared tests fails", false, withOwn()
                .put(SHARED + "Runs.java", test("Runs", 1))
                .put(SHARED + "Tuns.java", test("Tuns", 0)));
        begin("a shared test can't be compiled", false, withOwn()
                .put(SHARED + "Runs.java", "no Java")
                .put(SHARED + "Tuns.java", test("Tuns", 0)));
        begin("there is no shared test", false, withOwn());
        begin("a test of the project can't be compiled", false, withOwn()
                .put(OWN + "AnotherTest.java", "no Java")
                .put(SHARED + "Runs.java", test("Runs", 0)));
        begin("there is no test of the project", false,
                bare().put(OWN + "Due.java", "final class Due { }")
                .put(SHARED + "Runs.java", test("Runs", 0)));
        end();
    }

    private static Checkout bare() throws IOException {
        return new Checkout().copy(".ci/run").copy("src/main/java/TinStation.java");
    }

    private static Checkout withOwn() throws IOException {
        return bare().put(OWN + "OneTest.java", test("OneTest", 0));
    }

    private static String test(String name, int exitCode) {
        return "public final class " + name + " { public static void main(String[] args) {"
                + " System.out.println(new TinStation().grams() + \" by " + name + "\");"
                + " System.exit(" + exitCode + "); } }";
    }

    /** They run side by side: each is slow only because Java starts several times. */
    private void begin(String when, boolean isToPass, Checkout c) throws IOException {
        c.start("cd / && \"$OLDPWD/.ci/run\"");
        begun.put(when, c);
        passes.put(when, isToPass);
    }

    private void end() throws Exception {
        for (String when : begun.keySet()) {
            Checkout c = begun.get(when);
            boolean passed = c.exitCode() == 0;
            Due.is(when + ": .ci/run passes", passed ? 1 : 0, passes.get(when) ? 1 : 0);
            if (passes.get(when)) {
                Due.is("it ran its own", c.printed().contains("0 by OneTest") ? 1 : 0, 1);
                Due.is("it ran the shared one", c.printed().contains("0 by Runs") ? 1 : 0, 1);
            }
            c.remove();
        }
    }
}
