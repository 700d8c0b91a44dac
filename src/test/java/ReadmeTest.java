import java.io.File;
import java.io.IOException;
import java.lang.reflect.Method;
import java.lang.reflect.Modifier;
import java.net.URL;
import java.net.URLClassLoader;
import java.nio.file.Files;
import java.nio.file.Path;
import java.util.ArrayList;
import java.util.List;
import java.util.TreeSet;
import java.util.regex.Matcher;
import java.util.regex.Pattern;
import java.util.stream.Stream;
import javax.tools.ToolProvider;

/** README.md: what it shows of the class and of its tests is so. */
public final class ReadmeTest {
    private static final Path PAGE = Path.of("README.md");
    private static final Path TESTS = Path.of("src/test/java");
    private static final String MADE = "TinStation x = new TinStation();";
    private static final Pattern ROW = Pattern.compile(
            "((?:int (\\w+) = )?(x\\.(\\w+)\\([^;]*\\));)\\s+// (-?\\d+)(?:: \\S.*)?");

    private static final TreeSet<String> shown = new TreeSet<>();

    public static void main(String[] args) throws Exception {
        String page = Files.readString(PAGE);
        List<String> examples = blocks(page, "java");
        Due.is("there are examples", examples.isEmpty() ? 1 : 0, 0);
        for (int i = 0; i < examples.size(); i++) {
            example("Example" + i, examples.get(i));
        }
        everyCallIsShown();
        findings(page);
        namesTheTests(page);
        commands(blocks(page, "sh"));
        Due.end();
    }

    private static List<String> blocks(String page, String kind) {
        List<String> all = new ArrayList<>();
        Matcher m = Pattern.compile("(?ms)^```(\\w*)\n(.*?)^```$").matcher(page);
        while (m.find()) {
            Due.is("a block is java or sh", m.group(1).matches("java|sh") ? 1 : 0, 1);
            if (m.group(1).equals(kind)) {
                all.add(m.group(2));
            }
        }
        return all;
    }

    /** A block, as it stands there, is compiled and run; each row shows its answer. */
    private static void example(String name, String block) throws Exception {
        StringBuilder code = new StringBuilder();
        List<String> rows = new ArrayList<>();
        List<Integer> due = new ArrayList<>();
        for (String row : block.lines().toList()) {
            Matcher m = ROW.matcher(row);
            if (row.equals(MADE)) {
                code.append(row).append('\n');
            } else if (m.matches()) {
                String answer = "got[" + rows.size() + "] = ";
                code.append(m.group(2) == null ? answer + m.group(1)
                        : m.group(1) + " " + answer + m.group(2) + ";").append('\n');
                rows.add(row);
                due.add(Integer.parseInt(m.group(5)));
                shown.add(m.group(4));
            } else {
                Due.same("a row of README.md", row, "a call with its answer");
            }
        }
        int[] got = answers(name, code.toString(), rows.size());
        for (int i = 0; i < rows.size(); i++) {
            Due.is("README.md, \"" + rows.get(i) + "\"", got[i], due.get(i));
        }
    }

    private static int[] answers(String name, String code, int rows) throws Exception {
        Path folder = Files.createTempDirectory("readme");
        Path source = folder.resolve(name + ".java");
        Path compiled = folder.resolve(name + ".class");
        Files.writeString(source, "public final class " + name + " { public static int[] run() {\n"
                + "int[] got = new int[" + rows + "];\n" + code + "return got;\n} }\n");
        int failed = ToolProvider.getSystemJavaCompiler().run(null, null, null, "-cp",
                System.getProperty("java.class.path"), "-d", folder.toString(), source.toString());
        Due.is(name + " of README.md is Java", failed, 0);
        int[] got = new int[rows];
        if (failed == 0) {
            URL[] where = {folder.toUri().toURL()};
            try (URLClassLoader loader = new URLClassLoader(where)) {
                got = (int[]) loader.loadClass(name).getMethod("run").invoke(null);
            }
        }
        Files.deleteIfExists(compiled);
        Files.delete(source);
        Files.delete(folder);
        return got;
    }

    private static void everyCallIsShown() {
        TreeSet<String> face = new TreeSet<>();
        for (Method m : TinStation.class.getDeclaredMethods()) {
            if (Modifier.isPublic(m.getModifiers())) {
                face.add(m.getName());
            }
        }
        Due.same("the calls that README.md shows", shown.toString(), face.toString());
    }

    private static void findings(String page) {
        String[] names = {"BEYOND", "NONE", "STATE", "FULL", "KIND"};
        for (int k = 1; k <= 5; k++) {
            Pattern row = Pattern.compile("(?m)^\\| " + (Due.LOW - k) + " +\\| " + names[k - 1] + " ");
            Due.is("README.md tells of " + names[k - 1], row.matcher(page).find() ? 1 : 0, 1);
        }
    }

    /** Each file of the tests is named, and each that is named is there. */
    private static void namesTheTests(String page) throws IOException {
        TreeSet<String> there = new TreeSet<>();
        try (Stream<Path> all = Files.list(TESTS)) {
            all.forEach(p -> there.add(p.getFileName().toString().replace(".java", "")));
        }
        TreeSet<String> named = new TreeSet<>();
        String part = page.substring(Math.max(0, page.indexOf("## The tests")));
        Matcher m = Pattern.compile("`([A-Z]\\w+)(?:\\.\\w+)?`").matcher(part);
        while (m.find()) {
            named.add(m.group(1));
        }
        Due.same("the tests that README.md names", named.toString(), there.toString());
    }

    private static void commands(List<String> all) throws Exception {
        Due.is("README.md shows how to run the tests", all.contains(".ci/run\n") ? 1 : 0, 1);
        if (Checkout.isInside()) {
            return;
        }
        for (String command : all) {
            Checkout c = new Checkout().copy(".ci").copy("src").copy("README.md").linkShared();
            c.start(command);
            int code = c.exitCode();
            Due.is("\"" + command.strip() + "\" of README.md ends with", code, 0);
            if (code != 0) {
                System.out.println(c.printed());
            }
            if (command.equals(".ci/run\n")) {
                Due.is("it ran every test", testsRun(c.printed()), testsThatThereAre());
            }
            c.remove();
        }
    }

    private static long testsRun(String printed) {
        return printed.lines().filter(row -> row.startsWith("-- ")).count();
    }

    private static long testsThatThereAre() {
        File[] own = TESTS.toFile().listFiles((in, name) -> name.endsWith("Test.java"));
        File[] shared = new File("../shared/tests").listFiles((in, name) -> name.endsWith(".java"));
        return (own == null ? 0 : own.length) + (shared == null ? 0 : shared.length);
    }
}
