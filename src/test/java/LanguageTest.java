import java.lang.reflect.Constructor;
import java.lang.reflect.Field;
import java.lang.reflect.Method;
import java.lang.reflect.Modifier;
import java.nio.file.Files;
import java.nio.file.Path;
import java.util.Arrays;
import java.util.Map;
import java.util.Set;
import java.util.TreeMap;
import java.util.TreeSet;
import java.util.regex.Matcher;
import java.util.regex.Pattern;

/** The face as the document lists it, and those rules of LANGUAGE.md that a look at the file can hold. */
public final class LanguageTest {
    private static final Check CHECK = new Check("LanguageTest");
    private static final Path SOURCE = Path.of("src/main/java/LeakyLine.java");
    private static final Path DOCUMENT = Path.of("../shared/DOC.md");
    private static final Set<String> BUILT_IN = Set.of("String", "StringBuilder", "Integer", "Long", "Math", "System",
            "Arrays", "ArrayList", "List", "Iterator", "Iterable", "Comparable");

    private static final int DEEPEST = 8;

    public static void main(String[] args) throws Exception {
        face();
        members();
        String code = code();
        words(code);
        sizes(code);
        depths(code);
        CHECK.close();
    }

    private static void face() throws Exception {
        String document = Files.readString(DOCUMENT);
        Matcher block = Pattern.compile("```java\n(.*?)```", Pattern.DOTALL).matcher(document);
        CHECK.holds("the document lists the face", block.find());
        Set<String> want = new TreeSet<>();
        Matcher m = Pattern.compile("public (int|long) (\\w+)\\((.*?)\\);").matcher(block.group(1));
        while (m.find()) {
            want.add(m.group(1) + " " + m.group(2) + "(" + m.group(3).replaceAll(" \\w+(,|$)", "$1").replace(" ", "") + ")");
        }
        Set<String> got = new TreeSet<>();
        for (Method method : LeakyLine.class.getDeclaredMethods()) {
            if (Modifier.isPublic(method.getModifiers())) {
                StringBuilder types = new StringBuilder();
                for (Class<?> type : method.getParameterTypes()) {
                    types.append(types.length() > 0 ? "," : "").append(type.getSimpleName());
                }
                got.add(method.getReturnType().getSimpleName() + " " + method.getName() + "(" + types + ")");
            }
        }
        CHECK.due("methods that the document lists", 86, want.size());
        CHECK.holds("the face is " + want + ", not " + got, want.equals(got));
        CHECK.holds("the class is public and final", LeakyLine.class.getModifiers() == (Modifier.PUBLIC | Modifier.FINAL));
    }

    private static void members() {
        Set<String> open = new TreeSet<>();
        for (Method m : LeakyLine.class.getDeclaredMethods()) {
            if (Modifier.isPublic(m.getModifiers())) {
                open.add(m.getName());
            } else {
                CHECK.holds(m + " is private", Modifier.isPrivate(m.getModifiers()));
            }
        }
        for (Field f : LeakyLine.class.getDeclaredFields()) {
            CHECK.holds(f + " is private", Modifier.isPrivate(f.getModifiers()) || f.getName().equals("NONE"));
        }
        for (Constructor<?> c : LeakyLine.class.getDeclaredConstructors()) {
            CHECK.holds(c + " is the public one", Modifier.isPublic(c.getModifiers()) && c.getParameterCount() == 0);
        }
        Class<?>[] inside = LeakyLine.class.getDeclaredClasses();
        CHECK.holds("classes are few", inside.length < 12);
        Class<?>[] all = Arrays.copyOf(inside, inside.length + 1);
        all[inside.length] = LeakyLine.class;
        for (Class<?> c : all) {
            boolean isInside = c != LeakyLine.class;
            CHECK.holds(c + " is static", !isInside || Modifier.isStatic(c.getModifiers()));
            int fields = 0;
            for (Field f : c.getDeclaredFields()) {
                boolean isStatic = Modifier.isStatic(f.getModifiers());
                CHECK.holds(f + " is no static state", !isStatic || Modifier.isFinal(f.getModifiers()));
                fields += isStatic ? 0 : 1;
            }
            CHECK.holds(c + " has few fields", fields <= 20);
            for (Method m : c.getDeclaredMethods()) {
                CHECK.holds(m + " has few parameters", m.getParameterCount() <= 7);
                CHECK.holds(m + " has a name of its own", !(isInside || Modifier.isPrivate(m.getModifiers()))
                        || !open.contains(m.getName()));
            }
        }
    }

    /** The source without comments and texts. */
    private static String code() throws Exception {
        String source = Files.readString(SOURCE);
        CHECK.holds("the source is plain ASCII", source.chars().allMatch(c -> c < 128));
        source = source.replaceAll("\"(\\\\.|[^\"\\\\])*\"", "\"\"").replaceAll("'(\\\\.|[^'\\\\])'", "' '");
        return source.replaceAll("(?s)/\\*.*?\\*/", "").replaceAll("//[^\n]*", "");
    }

    private static void words(String code) {
        for (String word : new String[] {"throw", "throws", "try", "catch", "finally", "synchronized", "assert", "native",
            "package", "goto", "volatile", "transient", "var", "yield", "double", "float", "protected"}) {
            CHECK.holds("no " + word, !Pattern.compile("\\b" + word + "\\b").matcher(code).find());
        }
        CHECK.holds("no lambda, no method reference", !code.contains("->") && !code.contains("::"));
        CHECK.holds("no static block", !Pattern.compile("static\\s*\\{").matcher(code).find());
        CHECK.holds("no Exact", !Pattern.compile("Exact\\s*\\(").matcher(code).find());
        Matcher imports = Pattern.compile("import ([\\w.]+);").matcher(code);
        while (imports.find()) {
            CHECK.holds("import " + imports.group(1), Set.of("java.util.Arrays", "java.util.ArrayList", "java.util.List")
                    .contains(imports.group(1)));
        }
        Set<String> own = new TreeSet<>();
        Matcher classes = Pattern.compile("class (\\w+)").matcher(code);
        while (classes.find()) {
            own.add(classes.group(1));
        }
        Matcher names = Pattern.compile("(?<![.\\w])([A-Z][a-z]\\w*)").matcher(code);
        while (names.find()) {
            CHECK.holds(names.group(1) + " is known", own.contains(names.group(1)) || BUILT_IN.contains(names.group(1)));
        }
    }

    private static void sizes(String code) {
        int depth = 0;
        int from = 0;
        String head = "";
        String[] lines = code.split("\n");
        for (int i = 0; i < lines.length; i++) {
            boolean isHead = lines[i].matches("\\s+(?!private static final class|switch|if|for|while|return|else)[\\w\\[\\] ]+\\(.*\\) \\{");
            if (isHead && lines[i].matches(" {4}( {4})?\\S.*")) {
                from = i;
                head = lines[i];
                depth = lines[i].indexOf(lines[i].trim());
            }
            if (!head.isEmpty() && lines[i].equals(" ".repeat(depth) + "}")) {
                CHECK.holds(head.trim() + " is short", i - from <= 60);
                head = "";
            }
        }
    }

    /** Rule 11: how deep calls go. By names alone, so methods of one name count as one that calls what each of them does. */
    private static void depths(String code) {
        Map<String, String> bodies = new TreeMap<>();
        Matcher head = Pattern.compile("(?m)^( {4}(?: {4})?)[\\w\\[\\] ]*?(\\w+)\\([^()]*\\) \\{\n(.*?)^\\1\\}", Pattern.DOTALL).matcher(code);
        while (head.find()) {
            bodies.merge(head.group(2), head.group(3), String::concat);
        }
        CHECK.holds("methods are found: " + bodies.size(), bodies.keySet().containsAll(Set.of("feed", "share", "settle", "isWord")));
        for (String name : bodies.keySet()) {
            int depth = depthOf(name, bodies, new TreeSet<>());
            CHECK.holds(name + " goes " + depth + " deep", depth <= DEEPEST);
        }
    }

    /** Calls that stand open at once, the library's counted as one; far too many for what comes back to itself. */
    private static int depthOf(String name, Map<String, String> bodies, Set<String> open) {
        if (!open.add(name)) {
            return 100;
        }
        int below = 0;
        Matcher call = Pattern.compile("(\\.?)\\b(\\w+)\\(").matcher(bodies.get(name));
        while (call.find()) {
            if (bodies.containsKey(call.group(2))) {
                below = Math.max(below, depthOf(call.group(2), bodies, open));
            } else if (!call.group(1).isEmpty()) {
                below = Math.max(below, 1);
            }
        }
        open.remove(name);
        return below + 1;
    }
}
