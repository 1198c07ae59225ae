import java.io.IOException;
import java.lang.reflect.Method;
import java.lang.reflect.Modifier;
import java.net.URL;
import java.net.URLClassLoader;
import java.nio.file.Files;
import java.nio.file.Path;
import java.util.ArrayList;
import java.util.List;
import java.util.regex.Matcher;
import java.util.regex.Pattern;
import java.util.stream.Stream;
import javax.tools.JavaCompiler;
import javax.tools.ToolProvider;

/** README.md: the Java that it shows is compiled and run, and each call answers what is written behind it. */
public final class ReadmeTest {
    private static final Path README = Path.of("README.md");
    private static final Path TESTS = Path.of("src/test/java");
    // A call whose answer is told behind it; it may be kept under a name.
    private static final Pattern TOLD = Pattern.compile("\\s*(?:int (\\w+) = )?(.+);\\s*// (-?\\d+|true|false)\\b.*");
    private static int told = 0;
    private static int wrong = 0;

    public static void main(String[] args) throws Exception {
        String page = Files.readString(README);
        showsEveryCall(page);
        namesEveryTest(page);
        Path made = Files.createTempDirectory("readme");
        try {
            run(made, programOf(page));
        } finally {
            clear(made);
        }
        System.out.println(told + " answers told by README.md, " + wrong + " not as due");
        if (wrong != 0) {
            System.exit(1);
        }
    }

    /** Called by the program that is made of the page. */
    public static void due(String call, long got, long want) {
        if (got != want) {
            complain(call + " answered " + got + ", README.md tells " + want);
        }
    }

    public static void due(String call, boolean got, boolean want) {
        due(call, got ? 1 : 0, want ? 1 : 0);
    }

    private static void complain(String what) {
        wrong++;
        System.out.println(what);
    }

    private static void showsEveryCall(String page) {
        String shown = String.join("\n", blocks(page));
        for (Method method : SnowMules.class.getDeclaredMethods()) {
            if (Modifier.isPublic(method.getModifiers()) && !shown.contains("m." + method.getName() + "(")) {
                complain("README.md doesn't show " + method.getName());
            }
        }
    }

    private static void namesEveryTest(String page) throws IOException {
        try (Stream<Path> files = Files.list(TESTS)) {
            for (Path file : files.toList()) {
                String name = file.getFileName().toString().replace(".java", "");
                if (!page.contains("`" + name + "`")) {
                    complain("README.md doesn't name " + name);
                }
            }
        }
        if (!page.contains("bash .ci/run")) {
            complain("README.md doesn't say how the tests are run");
        }
    }

    private static List<String> blocks(String page) {
        List<String> found = new ArrayList<>();
        Matcher block = Pattern.compile("(?ms)^```java\\n(.*?)^```$").matcher(page);
        while (block.find()) {
            found.add(block.group(1));
        }
        return found;
    }

    /** Blocks that begin with a method stand beside main, all others are one row of calls in it. */
    private static String programOf(String page) {
        StringBuilder methods = new StringBuilder();
        StringBuilder calls = new StringBuilder();
        for (String block : blocks(page)) {
            if (block.startsWith("static ")) {
                methods.append(block);
            } else {
                block.lines().forEach(line -> calls.append(asked(line)).append('\n'));
            }
        }
        return "public final class Shown {\n" + methods + "public static void main(String[] args) {\n" + calls + "}\n}\n";
    }

    private static String asked(String line) {
        Matcher call = TOLD.matcher(line);
        if (!call.matches()) {
            // Only what makes the object may go without its answer.
            if (!line.isBlank() && !line.contains("= new ")) {
                complain("README.md tells no answer: " + line);
            }
            return line;
        }
        told++;
        String text = '"' + call.group(2).replace("\"", "'") + '"';
        String want = call.group(3);
        if (call.group(1) == null) {
            return "ReadmeTest.due(" + text + ", " + call.group(2) + ", " + want + ");";
        }
        return "int " + call.group(1) + " = " + call.group(2) + "; ReadmeTest.due(" + text + ", " + call.group(1) + ", " + want + ");";
    }

    private static void run(Path made, String program) throws Exception {
        Path source = made.resolve("Shown.java");
        Files.writeString(source, program);
        JavaCompiler compiler = ToolProvider.getSystemJavaCompiler();
        String classes = System.getProperty("java.class.path");
        if (compiler == null || compiler.run(null, null, null, "-cp", classes, "-d", made.toString(), source.toString()) != 0) {
            complain("what README.md shows doesn't compile");
            return;
        }
        try (URLClassLoader loader = new URLClassLoader(new URL[] {made.toUri().toURL()}, ReadmeTest.class.getClassLoader())) {
            loader.loadClass("Shown").getMethod("main", String[].class).invoke(null, (Object) new String[0]);
        }
    }

    private static void clear(Path made) throws IOException {
        try (Stream<Path> files = Files.list(made)) {
            for (Path file : files.toList()) {
                Files.delete(file);
            }
        }
        Files.delete(made);
    }
}
