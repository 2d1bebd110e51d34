import java.lang.reflect.Method;
import java.lang.reflect.Modifier;
import java.net.URL;
import java.net.URLClassLoader;
import java.nio.file.Files;
import java.nio.file.Path;
import java.util.regex.Matcher;
import java.util.regex.Pattern;
import javax.tools.ToolProvider;

/** README.md's examples, compiled and run: each answer is the one told beside the call. */
public final class ReadmeTest {
    private static final Check CHECK = new Check("ReadmeTest");
    private static final Path README = Path.of("README.md");
    private static final Path OUT = Path.of("build/readme");

    private static int asked = 0;

    public static void main(String[] args) throws Exception {
        String readme = Files.readString(README);
        names(readme);
        examples(readme);
        CHECK.close();
    }

    /** Called by the example's code. */
    public static void due(String call, long want, long got) {
        asked++;
        CHECK.due(call, want, got);
    }

    private static void names(String readme) {
        for (Method method : LeakyLine.class.getDeclaredMethods()) {
            if (Modifier.isPublic(method.getModifiers())) {
                CHECK.holds("README tells of " + method.getName(), readme.contains("`" + method.getName() + "`"));
            }
        }
    }

    private static void examples(String readme) throws Exception {
        StringBuilder methods = new StringBuilder();
        StringBuilder steps = new StringBuilder();
        Matcher block = Pattern.compile("```java\n(.*?)```", Pattern.DOTALL).matcher(readme);
        while (block.find()) {
            String code = block.group(1);
            (code.startsWith("static ") ? methods : steps).append(code);
        }
        Matcher call = Pattern.compile("(?ms)^((?:x\\.|tell\\().*?\\));\\s*// (-?\\d+)").matcher(steps);
        StringBuilder asking = new StringBuilder();
        while (call.find()) {
            String name = call.group(1).replaceAll("\\s+", " ").replace("\"", "'");
            call.appendReplacement(asking, Matcher.quoteReplacement(
                    "ReadmeTest.due(\"" + name + "\", " + call.group(2) + "L, " + call.group(1) + ");//"));
        }
        call.appendTail(asking);
        run("public final class Readme {\n" + methods + "public static void run() {\n" + asking + "}\n}\n");
        long calls = steps.toString().lines().filter(line -> line.matches("(x\\.|tell\\().*")).count();
        CHECK.due("examples that were asked", calls, asked);
        CHECK.holds("there are examples", calls > 0);
    }

    private static void run(String source) throws Exception {
        Files.createDirectories(OUT);
        Path file = OUT.resolve("Readme.java");
        Files.writeString(file, source);
        int code = ToolProvider.getSystemJavaCompiler().run(null, null, null, "-cp", System.getProperty("java.class.path"),
                "-d", OUT.toString(), file.toString());
        CHECK.due("compiling README's examples", 0, code);
        if (code == 0) {
            URL[] urls = {OUT.toUri().toURL()};
            try (URLClassLoader loader = new URLClassLoader(urls, ReadmeTest.class.getClassLoader())) {
                loader.loadClass("Readme").getMethod("run").invoke(null);
            }
        }
    }
}
