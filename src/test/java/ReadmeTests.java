import java.io.IOException;
import java.lang.reflect.Method;
import java.lang.reflect.Modifier;
import java.net.URL;
import java.net.URLClassLoader;
import java.nio.file.DirectoryStream;
import java.nio.file.Files;
import java.nio.file.Path;
import java.util.function.Consumer;
import java.util.regex.Matcher;
import java.util.regex.Pattern;
import javax.tools.ToolProvider;

/** README.md: its examples are compiled and answer what stands behind their calls; it names each call and each test. */
public final class ReadmeTests {
    private static final Checks CHECKS = new Checks();
    private static final Path FILE = Path.of("README.md");
    private static final Path TESTS = Path.of("src/test/java");
    private static final Path BUILD = Path.of("build/readme");
    private static final Pattern EXAMPLE = Pattern.compile("```java\n(.*?)```", Pattern.DOTALL);
    private static final Pattern CALL = Pattern.compile("(?m)^(ring\\.\\w+\\([^\n]*?\\)); +// ([-\\w.]+)[^\n]*");
    private static final String[] CONSTANTS = {"UNKNOWN", "BAD_VALUE", "FULL", "NOT_POSSIBLE", "NONE"};

    public static void main(String[] args) throws Exception {
        String readme = Files.readString(FILE);
        Matcher examples = EXAMPLE.matcher(readme);
        int told = 0;
        while (examples.find()) {
            told++;
            CHECKS.begin("example " + told + " of README.md");
            runExample("Example" + told, examples.group(1));
        }
        CHECKS.begin("README.md");
        CHECKS.due("examples", told, 3);
        namesEachCall(readme);
        namesEachTest(readme);
        CHECKS.end();
    }

    private static void runExample(String name, String lines) throws Exception {
        Matcher calls = CALL.matcher(lines);
        int told = 0;
        while (calls.find()) {
            told++;
        }
        CHECKS.due("lines with an answer", told, lines.split("; +// ", -1).length - 1);
        String checked = calls.replaceAll("told.accept(new Object[] {\"$1\", $1, $2});");
        for (String constant : CONSTANTS) {
            checked = checked.replace(", " + constant + "}", ", MachineRing." + constant + "}");
        }
        String source = "public final class " + name + " implements java.util.function.Consumer<"
                + "java.util.function.Consumer<Object[]>> {\n"
                + "public void accept(java.util.function.Consumer<Object[]> told) {\n" + checked + "}\n}\n";
        run(name, source);
    }

    @SuppressWarnings("unchecked")
    private static void run(String name, String source) throws Exception {
        Files.createDirectories(BUILD);
        Path file = BUILD.resolve(name + ".java");
        Files.writeString(file, source);
        int code = ToolProvider.getSystemJavaCompiler().run(null, null, null, "-cp",
                System.getProperty("java.class.path"), "-d", BUILD.toString(), file.toString());
        CHECKS.due("the compiler", code, 0);
        if (code != 0) {
            return;
        }
        try (URLClassLoader loader = new URLClassLoader(new URL[] {BUILD.toUri().toURL()})) {
            Object example = loader.loadClass(name).getConstructor().newInstance();
            ((Consumer<Consumer<Object[]>>) example).accept(ReadmeTests::answerIsDue);
        }
    }

    /** A call's own words, its answer, and the one that README.md tells. */
    private static void answerIsDue(Object[] row) {
        if (row[1] instanceof Float && row[2] instanceof Float) {
            CHECKS.dueFloat((String) row[0], (Float) row[1], (Float) row[2]);
        } else {
            CHECKS.due((String) row[0], (Integer) row[1], (Integer) row[2]);
        }
    }

    private static void namesEachCall(String readme) {
        for (Method method : MachineRing.class.getDeclaredMethods()) {
            if (Modifier.isPublic(method.getModifiers())) {
                CHECKS.holds("names " + method.getName(), readme.contains("`" + method.getName() + "`"));
            }
        }
        for (String constant : CONSTANTS) {
            CHECKS.holds("names " + constant, readme.contains("`" + constant + "`"));
        }
    }

    private static void namesEachTest(String readme) throws IOException {
        try (DirectoryStream<Path> files = Files.newDirectoryStream(TESTS, "*.java")) {
            for (Path file : files) {
                String name = file.getFileName().toString().replace(".java", "");
                CHECKS.holds("names " + name, readme.contains("`" + name + "`"));
            }
        }
    }
}
