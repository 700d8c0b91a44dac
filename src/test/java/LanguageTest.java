import java.lang.reflect.Array;
import java.lang.reflect.Field;
import java.lang.reflect.Method;
import java.lang.reflect.Modifier;
import java.nio.file.Files;
import java.nio.file.Path;
import java.util.ArrayDeque;
import java.util.ArrayList;
import java.util.Collections;
import java.util.Deque;
import java.util.IdentityHashMap;
import java.util.List;
import java.util.Set;
import java.util.TreeSet;
import java.util.regex.Matcher;
import java.util.regex.Pattern;

/** What of ../shared/LANGUAGE.md can be seen in the source and in the classes. */
public final class LanguageTest {
    private static final Path SOURCE = Path.of("src/main/java/TinStation.java");
    private static final String[] FORBIDDEN = {"throw", "throws", "try", "catch", "finally",
        "synchronized", "assert", "volatile", "package", "import", "hashCode", "toString", "Exact",
        "getClass", "Object", "Exception", "Runnable", "Thread", "Random", "protected", "->", "::",
        "@", "%n"};

    public static void main(String[] args) throws Exception {
        String code = Files.readString(SOURCE);
        everySignIsPlain(code);
        String bare = code.replaceAll("(?s)/\\*.*?\\*/", "").replaceAll("//[^\n]*", "");
        nothingForbidden(bare);
        copiesNumbersOnly(bare);
        methodsAreShort(bare);
        classes();
        sizeOfAnObject();
        Due.end();
    }

    private static void everySignIsPlain(String code) {
        Due.is("signs beyond 126", code.chars().filter(c -> c > 126).count(), 0);
        Due.is("texts in quotes", code.chars().filter(c -> c == '"').count(), 0);
    }

    private static void nothingForbidden(String bare) {
        for (String word : FORBIDDEN) {
            boolean named = Character.isLetter(word.charAt(0));
            Pattern p = Pattern.compile(named ? "\\b" + word + "\\b" : Pattern.quote(word));
            Due.is("'" + word + "' in the source", p.matcher(bare).find() ? 1 : 0, 0);
        }
        Matcher library = Pattern.compile("\\b([A-Z][a-z]\\w*)\\.(\\w+)\\(").matcher(bare);
        Set<String> own = new TreeSet<>();
        for (Class<?> c : TinStation.class.getDeclaredClasses()) {
            own.add(c.getSimpleName());
        }
        Set<String> known = Set.of("Math.min", "Math.max", "Integer.bitCount", "System.arraycopy");
        while (library.find()) {
            String call = library.group(1) + "." + library.group(2);
            boolean fine = own.contains(library.group(1)) || known.contains(call);
            Due.is(call + " is of the library's part", fine ? 1 : 0, 1);
        }
    }

    /** The library's copying is for arrays of numbers; boolean ones go one by one. */
    private static void copiesNumbersOnly(String bare) {
        Pattern copy = Pattern.compile("void copy\\(int\\[\\] from, int\\[\\] to\\) \\{\\s*"
                + "System\\.arraycopy\\(from, 0, to, 0, Math\\.min\\(from\\.length, to\\.length\\)\\);");
        Due.is("ints are copied by the library", copy.matcher(bare).find() ? 1 : 0, 1);
        Due.is("so much is", Pattern.compile("\\barraycopy\\b").matcher(bare).results().count(), 1);
    }

    private static void methodsAreShort(String bare) {
        Pattern head = Pattern.compile("^ {4,8}[\\w\\[\\]<> ]+\\([^)]*\\) \\{$", Pattern.MULTILINE);
        Matcher m = head.matcher(bare);
        int methods = 0;
        while (m.find()) {
            int indent = m.group().length() - m.group().stripLeading().length();
            int end = bare.indexOf("\n" + " ".repeat(indent) + "}", m.end());
            long length = bare.substring(m.start(), end).lines().count();
            Due.is(m.group().strip() + " is too long", length > 60 ? 1 : 0, 0);
            methods++;
        }
        Due.is("methods were seen", methods > 100 ? 1 : 0, 1);
    }

    private static void classes() {
        List<Class<?>> all = new ArrayList<>(List.of(TinStation.class.getDeclaredClasses()));
        Due.is("classes inside are too many", all.size() > 11 ? 1 : 0, 0);
        TreeSet<String> face = new TreeSet<>();
        for (Method m : TinStation.class.getMethods()) {
            face.add(m.getName());
        }
        for (Class<?> c : all) {
            Due.is(c + " is static", Modifier.isStatic(c.getModifiers()) ? 1 : 0, 1);
            Due.is(c + " has classes inside", c.getDeclaredClasses().length, 0);
            for (Method m : c.getDeclaredMethods()) {
                Due.is(m + " bears the name of a call", face.contains(m.getName()) ? 1 : 0, 0);
            }
        }
        all.add(TinStation.class);
        for (Class<?> c : all) {
            int fields = 0;
            for (Field f : c.getDeclaredFields()) {
                boolean constant = Modifier.isStatic(f.getModifiers());
                fields += constant ? 0 : 1;
                boolean fine = !constant || Modifier.isFinal(f.getModifiers());
                Due.is(f + " is final", fine ? 1 : 0, 1);
            }
            Due.is(c + " has too many fields", fields > 20 ? 1 : 0, 0);
            for (Method m : c.getDeclaredMethods()) {
                Due.is(m + " takes too many", m.getParameterCount() > 7 ? 1 : 0, 0);
            }
        }
    }

    /** All objects of one run live in one room, so a new one must be small; calls make none. */
    private static void sizeOfAnObject() throws Exception {
        Set<Object> seen = Collections.newSetFromMap(new IdentityHashMap<>());
        Deque<Object> open = new ArrayDeque<>();
        open.add(Stations.full());
        int elements = 0;
        while (!open.isEmpty()) {
            Object o = open.remove();
            if (seen.add(o)) {
                elements += o.getClass().isArray() ? Array.getLength(o) : look(o, open);
            }
        }
        Due.is("objects and arrays: " + seen.size(), seen.size() > 100 ? 1 : 0, 0);
        Due.is("fields and elements: " + elements, elements > 1500 ? 1 : 0, 0);
    }

    private static int look(Object o, Deque<Object> open) throws Exception {
        int fields = 0;
        for (Field f : o.getClass().getDeclaredFields()) {
            if (!Modifier.isStatic(f.getModifiers())) {
                fields++;
                f.setAccessible(true);
                if (!f.getType().isPrimitive()) {
                    open.add(f.get(o));
                }
            }
        }
        return fields;
    }
}
