import java.io.IOException;
import java.lang.reflect.InvocationTargetException;
import java.net.URI;
import java.net.URL;
import java.net.URLClassLoader;
import java.nio.charset.StandardCharsets;
import java.nio.file.Files;
import java.nio.file.Path;
import java.util.ArrayList;
import java.util.List;
import java.util.Locale;
import java.util.regex.Matcher;
import java.util.regex.Pattern;
import javax.tools.Diagnostic;
import javax.tools.DiagnosticCollector;
import javax.tools.JavaCompiler;
import javax.tools.JavaFileObject;
import javax.tools.SimpleJavaFileObject;
import javax.tools.StandardJavaFileManager;
import javax.tools.ToolProvider;

/**
 * The Java lines in README.md, one behind the other, answer what the comments beside them tell: a number, true, false
 * or the exception that is thrown. Each method and each test that there is is named there, too.
 */
public final class ReadmeTest {
    private static final Path README = Path.of("README.md");
    private static final Path TESTS = Path.of("src", "test", "java");
    private static final Pattern BLOCK = Pattern.compile("(?s)```java\n(.*?)```");
    private static final Pattern ANSWERED = Pattern.compile("(?:int (\\w+) = )?(.*);\\s*// (-?\\d+|true|false)\\b.*");
    private static final Pattern THROWING = Pattern.compile("(.*);\\s*// throws (\\w+)\\b.*");
    /** At least so many answers stand in the file, lest none is looked at for the way they are written. */
    private static final int FEWEST_ANSWERS = 30;

    private static int wrong = 0;
    private static int answers = 0;

    private static void fail(String what) {
        wrong++;
        System.out.println(what);
    }

    /** Called by the class that is made of the lines. */
    public static void due(String line, Object got, Object want) {
        answers++;
        if (!want.equals(got)) {
            fail("README.md: " + line + " answered " + got + ", tells " + want);
        }
    }

    private static String quoted(String line) {
        return "\"" + line.replace("\\", "\\\\").replace("\"", "\\\"") + "\"";
    }

    private static String translated(String line) {
        Matcher throwing = THROWING.matcher(line);
        if (throwing.matches()) {
            String call = quoted(throwing.group(1));
            return "try { Object got = " + throwing.group(1) + "; ReadmeTest.due(" + call + ", got, \"an exception\"); }"
                + " catch (RuntimeException e) { ReadmeTest.due(" + call + ", e.getClass().getSimpleName(), "
                + quoted(throwing.group(2)) + "); }";
        }
        Matcher answered = ANSWERED.matcher(line);
        if (!answered.matches()) {
            return line;
        }
        String check = "ReadmeTest.due(" + quoted(answered.group(2)) + ", ";
        return answered.group(1) == null
            ? check + answered.group(2) + ", " + answered.group(3) + ");"
            : "int " + answered.group(1) + " = " + answered.group(2) + "; "
                + check + answered.group(1) + ", " + answered.group(3) + ");";
    }

    private static String program(String text) {
        StringBuilder program = new StringBuilder("public final class Lines { public static void run() {\n");
        Matcher block = BLOCK.matcher(text);
        while (block.find()) {
            for (String line : block.group(1).split("\n")) {
                program.append(translated(line)).append('\n');
            }
        }
        return program.append("} }\n").toString();
    }

    private static boolean isCompiled(String program, Path out) throws IOException {
        JavaCompiler compiler = ToolProvider.getSystemJavaCompiler();
        DiagnosticCollector<JavaFileObject> found = new DiagnosticCollector<>();
        JavaFileObject source = new SimpleJavaFileObject(URI.create("string:///Lines.java"), JavaFileObject.Kind.SOURCE) {
            @Override
            public CharSequence getCharContent(boolean isLenient) {
                return program;
            }
        };
        List<String> options = List.of("-d", out.toString(), "-classpath", System.getProperty("java.class.path"));
        boolean is;
        try (StandardJavaFileManager files = compiler.getStandardFileManager(found, null, StandardCharsets.UTF_8)) {
            is = compiler.getTask(null, files, found, options, null, List.of(source)).call();
        }
        for (Diagnostic<?> each : found.getDiagnostics()) {
            fail("README.md, its lines of Java: " + each.getMessage(Locale.ROOT));
        }
        return is;
    }

    private static void run(String program) throws IOException, ReflectiveOperationException {
        Path out = Files.createTempDirectory("readme");
        try {
            if (isCompiled(program, out)) {
                try (URLClassLoader loader = new URLClassLoader(new URL[] {out.toUri().toURL()})) {
                    loader.loadClass("Lines").getMethod("run").invoke(null);
                }
            }
        } catch (InvocationTargetException thrown) {
            fail("README.md, its lines of Java: threw " + thrown.getCause());
        } finally {
            Files.deleteIfExists(out.resolve("Lines.class"));
            Files.deleteIfExists(out);
        }
    }

    private static void everyMethodIsCalled(String program) {
        for (var method : Submodulary.class.getDeclaredMethods()) {
            boolean isPublic = (method.getModifiers() & java.lang.reflect.Modifier.PUBLIC) != 0;
            if (isPublic && !program.contains("x." + method.getName() + "(")) {
                fail("README.md does not call " + method.getName());
            }
        }
    }

    private static void everyTestIsNamed(String text) throws IOException {
        List<Path> tests = new ArrayList<>();
        try (var found = Files.list(TESTS)) {
            found.forEach(tests::add);
        }
        for (Path test : tests) {
            String name = test.getFileName().toString().replace(".java", "");
            if (!text.contains("- `" + name + "`: ")) {
                fail("README.md does not name " + name);
            }
        }
        Matcher named = Pattern.compile("- `(\\w+)`: ").matcher(text);
        while (named.find()) {
            if (!Files.exists(TESTS.resolve(named.group(1) + ".java"))) {
                fail("README.md names a test that there is not: " + named.group(1));
            }
        }
    }

    public static void main(String[] arguments) throws IOException, ReflectiveOperationException {
        String text = Files.readString(README, StandardCharsets.UTF_8);
        String program = program(text);
        run(program);
        everyMethodIsCalled(program);
        everyTestIsNamed(text);
        if (answers < FEWEST_ANSWERS) {
            fail("README.md: only " + answers + " answers were looked at");
        }
        System.out.println(wrong == 0 ? "README.md tells " + answers + " answers as they are" : wrong + " things are not so");
        if (wrong != 0) {
            System.exit(1);
        }
    }
}
