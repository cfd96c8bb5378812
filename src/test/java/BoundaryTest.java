import java.io.IOException;
import java.lang.reflect.InvocationTargetException;
import java.lang.reflect.Method;
import java.nio.charset.StandardCharsets;
import java.nio.file.Files;
import java.nio.file.Path;
import java.util.ArrayList;
import java.util.Comparator;
import java.util.List;

/**
 * Runs all tests under src/test/boundary. Each names its promise and words of the document; the words have to stand
 * there, and each sentence of the terms and of the promises has to be named by a test.
 */
public final class BoundaryTest {
    private static final Class<?>[] TESTS = {
        ToldBoundaries.class, FunctionBoundaries.class, LeastBoundaries.class, GreedBoundaries.class, PlainCases.class,
    };
    private static final Path DOCUMENT = Path.of("..", "shared", "DOC.md");
    private static final int PROMISES = 25;

    private static int wrong = 0;

    private static void fail(String what) {
        wrong++;
        System.out.println(what);
    }

    private static List<Method> tests() {
        List<Method> found = new ArrayList<>();
        for (Class<?> each : TESTS) {
            for (Method method : each.getDeclaredMethods()) {
                if (method.isAnnotationPresent(Sentence.class)) {
                    found.add(method);
                }
            }
        }
        found.sort(Comparator.comparingInt((Method test) -> promise(test)).thenComparing(Method::getName));
        return found;
    }

    private static int promise(Method test) {
        return test.getAnnotation(Sentence.class).promise();
    }

    private static String says(Method test) {
        return test.getAnnotation(Sentence.class).says();
    }

    private static void run(Method test) throws IllegalAccessException {
        String name = "promise " + promise(test) + ", \"" + says(test) + "\", " + test.getName() + ": ";
        try {
            test.invoke(null);
        } catch (InvocationTargetException thrown) {
            fail(name + "threw " + thrown.getCause());
        }
        for (String found : Due.wrongSinceLast()) {
            fail(name + found);
        }
    }

    /** What stands ahead of all promises, and then each promise, by its number. */
    private static String[] sections() throws IOException {
        String text = Files.readString(DOCUMENT, StandardCharsets.UTF_8);
        String[] sections = new String[PROMISES + 1];
        int from = 0;
        for (int promise = 0; promise <= PROMISES; promise++) {
            String next = promise < PROMISES ? "## Promise " + (promise + 1) + ":" : "## Not promised";
            int to = text.indexOf(next);
            if (to < from) {
                fail("the document has no " + next);
                to = from;
            }
            sections[promise] = text.substring(from, to);
            from = to;
        }
        return sections;
    }

    private static void everyTestNamesWordsOfTheDocument(List<Method> tests, String[] sections) {
        for (Method test : tests) {
            if (!sections[0].contains(says(test)) && !sections[promise(test)].contains(says(test))) {
                fail(test.getName() + " names what does not stand there: " + says(test));
            }
        }
    }

    private static void everySentenceIsNamed(List<Method> tests, String[] sections) {
        for (String sentence : sentences(sections[0].substring(Math.max(0, sections[0].indexOf("## Terms"))))) {
            // a line of the terms without a full stop is a heading
            if (sentence.endsWith(".") && tests.stream().noneMatch(test -> sentence.contains(says(test)))) {
                fail("no test names: " + sentence);
            }
        }
        for (int promise = 1; promise <= PROMISES; promise++) {
            for (String sentence : sentences(sections[promise])) {
                if (!isNamed(tests, promise, sentence)) {
                    fail("no test of promise " + promise + " names: " + sentence);
                }
            }
        }
    }

    private static List<String> sentences(String section) {
        List<String> found = new ArrayList<>();
        for (String line : section.split("\n")) {
            boolean isHeading = line.isBlank() || line.startsWith("#") || line.startsWith("Ahead of the calls");
            if (!isHeading) {
                found.addAll(List.of(line.split("(?<=\\.) ")));
            }
        }
        return found;
    }

    private static boolean isNamed(List<Method> tests, int promise, String sentence) {
        for (Method test : tests) {
            if (promise(test) == promise && sentence.contains(says(test))) {
                return true;
            }
        }
        return false;
    }

    private static void everyPromiseHasTests(List<Method> tests) {
        boolean[] has = new boolean[PROMISES + 1];
        tests.forEach(test -> has[promise(test)] = true);
        for (int promise = 1; promise <= PROMISES; promise++) {
            if (!has[promise]) {
                fail("promise " + promise + " has no test");
            }
        }
    }

    public static void main(String[] arguments) throws IOException, IllegalAccessException {
        List<Method> tests = tests();
        for (Method test : tests) {
            run(test);
        }
        everyPromiseHasTests(tests);
        if (Files.isReadable(DOCUMENT)) {
            String[] sections = sections();
            everyTestNamesWordsOfTheDocument(tests, sections);
            everySentenceIsNamed(tests, sections);
        } else {
            System.out.println("the document is not here: the words of it that tests name are not looked for");
        }
        System.out.println(wrong == 0 ? tests.size() + " tests of boundary cases hold" : wrong + " things are not as due");
        if (wrong != 0) {
            System.exit(1);
        }
    }
}
