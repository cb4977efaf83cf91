import java.io.IOException;
import java.lang.reflect.InvocationTargetException;
import java.lang.reflect.Method;
import java.nio.file.Files;
import java.nio.file.Path;
import java.util.ArrayList;
import java.util.Comparator;
import java.util.List;

/** Runs each method of a class that says which words it tests, and fails if the words are not the document's. */
final class Sentences {
    private static final Path DOCUMENT = Path.of("..", "shared", "DOC.md");

    private Sentences() {
    }

    static List<Method> of(Class<?> tests) {
        List<Method> all = new ArrayList<>();
        for (Method method : tests.getDeclaredMethods()) {
            if (method.isAnnotationPresent(Says.class)) {
                all.add(method);
            }
        }
        all.sort(Comparator.<Method>comparingInt(method -> method.getAnnotation(Says.class).promise())
            .thenComparing(Method::getName));
        return all;
    }

    static void run(Class<?> tests) throws IOException, ReflectiveOperationException {
        int broken = 0;
        List<Method> all = of(tests);
        for (Method test : all) {
            if (!holds(test)) {
                broken++;
            }
        }
        System.out.println(tests.getName() + ": " + all.size() + " sentences, " + broken + " do not hold");
        if (broken != 0 || all.isEmpty()) {
            System.exit(1);
        }
    }

    private static boolean holds(Method test) throws IOException, ReflectiveOperationException {
        Says says = test.getAnnotation(Says.class);
        Check check = new Check((says.promise() == 0 ? "terms" : "promise " + says.promise())
            + ", '" + says.words() + "', " + test.getName());
        check.due("the words stand there", part(says.promise()).contains(says.words()), true);
        try {
            test.invoke(null, check);
        } catch (InvocationTargetException thrown) {
            check.due("it threw " + thrown.getCause(), true, false);
        }
        return check.passed();
    }

    /** What the document says from the heading of a promise to the next heading; all ahead of promise 1 for 0. */
    private static String part(int promise) throws IOException {
        String text = Files.readString(DOCUMENT).replaceAll("```(text)?", " ");
        int from = promise == 0 ? 0 : text.indexOf("## Promise " + promise + ":");
        int to = text.indexOf(promise == 0 ? "## Promise 1:" : "\n## ", from + 1);
        return from < 0 || to < 0 ? "" : text.substring(from, to).replaceAll("\\s+", " ");
    }
}
