import java.lang.reflect.Method;
import java.lang.reflect.Modifier;
import java.net.URL;
import java.net.URLClassLoader;
import java.nio.file.Files;
import java.nio.file.Path;
import java.util.regex.Matcher;
import java.util.regex.Pattern;
import javax.tools.JavaCompiler;
import javax.tools.ToolProvider;

/** The examples of README.md: compiled and run as they stand there; it runs in the project's folder. */
public final class ReadmeTest extends Asking {
    private static final Pattern BLOCK = Pattern.compile("(?s)```java\n(.*?)```");
    private static final Pattern ANSWERED = Pattern.compile("(?m)^(x\\.\\w+\\(.*\\)); +// (-?\\d+|NONE|true|false)\\b.*$");
    private static final Pattern CALLED = Pattern.compile("(?m)^x\\.");

    public static void main(String[] args) throws Exception {
        String readme = Files.readString(Path.of("README.md"));
        for (Method method : MayRings.class.getDeclaredMethods()) {
            if (Modifier.isPublic(method.getModifiers())) {
                due("README.md names " + method.getName(), readme.contains("`" + method.getName() + "`"), true);
            }
        }
        due("README.md says how the tests are run", readme.contains("bash .ci/run"), true);
        run(programOf(readme));
        end("ReadmeTest");
    }

    private static String programOf(String readme) {
        StringBuilder members = new StringBuilder();
        StringBuilder main = new StringBuilder();
        Matcher blocks = BLOCK.matcher(readme);
        int examples = 0;
        while (blocks.find()) {
            String code = blocks.group(1);
            if (code.startsWith("static ")) {
                members.append(code);
            } else {
                examples++;
                due("each call of example " + examples + " has its answer", ANSWERED.matcher(code).results().count(),
                        CALLED.matcher(code).results().count());
                main.append("{\n").append(ANSWERED.matcher(code).replaceAll(ReadmeTest::held)).append("}\n");
            }
        }
        due("there are examples", examples > 0, true);
        return "public final class Readme {\n" + members + "public static void main(String[] args) {\n" + main + "}\n}\n";
    }

    private static String held(java.util.regex.MatchResult row) {
        String call = row.group(1);
        String want = row.group(2).replace("NONE", "MayRings.NONE");
        return Matcher.quoteReplacement("ReadmeTest.answered(\"" + call + "\", " + call + ", " + want + ");");
    }

    /** Public, as the examples come by another loader. */
    public static void answered(String call, Object got, Object want) {
        same("README.md: " + call, got.toString(), want.toString());
    }

    private static void run(String program) throws Exception {
        Path folder = Files.createTempDirectory("readme");
        Path source = folder.resolve("Readme.java");
        Files.writeString(source, program);
        JavaCompiler compiler = ToolProvider.getSystemJavaCompiler();
        int failed = compiler.run(null, null, null, "-cp", System.getProperty("java.class.path"), "-d", folder.toString(),
                source.toString());
        due("the examples compile", failed, 0);
        if (failed == 0) {
            load(folder);
        }
        Files.deleteIfExists(folder.resolve("Readme.class"));
        Files.delete(source);
        Files.delete(folder);
    }

    private static void load(Path folder) throws Exception {
        URL[] where = {folder.toUri().toURL()};
        try (URLClassLoader loader = new URLClassLoader(where)) {
            loader.loadClass("Readme").getMethod("main", String[].class).invoke(null, (Object) new String[0]);
        }
    }
}
