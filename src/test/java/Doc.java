import java.io.IOException;
import java.nio.file.Files;
import java.nio.file.Path;
import java.util.ArrayList;
import java.util.LinkedHashMap;
import java.util.List;
import java.util.Map;

/**
 * The document, so that a test can name the sentence that it holds, and so that a sentence that no
 * test names is seen.
 */
final class Doc {
    private static final Path FILE = Path.of("../shared/DOC.md");
    private static final Map<String, String> SECTIONS = new LinkedHashMap<>();
    private static final Map<String, boolean[]> NAMED = new LinkedHashMap<>();

    private Doc() {
    }

    static void open() throws IOException {
        if (!Files.exists(FILE)) {
            System.out.println("no " + FILE + ": the sentences are not looked up");
            return;
        }
        String name = "";
        StringBuilder text = new StringBuilder();
        for (String line : Files.readAllLines(FILE)) {
            if (line.startsWith("## ")) {
                keep(name, text.toString());
                name = line.substring(3).replaceFirst(":.*", "");
                text.setLength(0);
            } else if (!line.startsWith("```") && !line.startsWith("Ahead of the calls ")) {
                text.append(line).append(' ');
            }
        }
        keep(name, text.toString());
    }

    /** Only the terms and the promises ask for something; a signature is FaceTest's. */
    private static void keep(String name, String text) {
        if (name.equals("Terms") || name.startsWith("Promise ")) {
            String plain = text.replaceAll("`[^`]*`:", " ").replaceAll("\\s+", " ").trim();
            SECTIONS.put(name, plain);
            NAMED.put(name, new boolean[plain.length()]);
        }
    }

    /** What follows holds this sentence, or this part of one. */
    static void says(String section, String quote) {
        Due.sentence = section + ", \"" + quote + "\": ";
        if (SECTIONS.isEmpty()) {
            return;
        }
        String text = SECTIONS.getOrDefault(section, "");
        int at = text.indexOf(quote);
        Due.is("the document has it", at >= 0 ? 1 : 0, 1);
        if (at >= 0) {
            java.util.Arrays.fill(NAMED.get(section), at, at + quote.length(), true);
        }
    }

    static void promise(int n, String quote) {
        says("Promise " + n, quote);
    }

    static void terms(String quote) {
        says("Terms", quote);
    }

    /** All words of the terms and the promises must have been named. */
    static void close() {
        Due.sentence = "";
        if (SECTIONS.isEmpty()) {
            return;
        }
        Due.is("promises in the document", SECTIONS.size(), 1 + 47);
        for (String section : SECTIONS.keySet()) {
            for (String rest : unnamed(SECTIONS.get(section), NAMED.get(section))) {
                Due.same("no test names in " + section, rest, "");
            }
        }
    }

    private static List<String> unnamed(String text, boolean[] named) {
        List<String> rest = new ArrayList<>();
        StringBuilder part = new StringBuilder();
        for (int i = 0; i <= text.length(); i++) {
            if (i < text.length() && !named[i]) {
                part.append(text.charAt(i));
            } else {
                if (part.toString().matches(".*[A-Za-z].*")) {
                    rest.add(part.toString());
                }
                part.setLength(0);
            }
        }
        return rest;
    }
}
