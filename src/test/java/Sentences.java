import java.io.IOException;
import java.lang.reflect.InvocationTargetException;
import java.lang.reflect.Method;
import java.util.ArrayList;
import java.util.Comparator;
import java.util.List;

/** Runs each method of a class that says which words it tests, and fails if the words are not the document's. */
final class Sentences {
    private Sentences() {
    }

    static List<Method> of(Class<?> tests) {
        List<Method> all = new ArrayList<>();
        for (Method method : tests.getDeclaredMethods()) {
            if (method.isAnnotationPresent(Says.class)) {
                all.add(method);
            }
        }
        all.sort(Comparator.<Method>comparingInt(method -> method.getAnnotation(Says.class).promise())
            .thenComparing(Method::getName));
        return all;
    }

    static void run(Class<?> tests) throws IOException, ReflectiveOperationException {
        Document document = new Document();
        int broken = 0;
        List<Method> all = of(tests);
        for (Method test : all) {
            if (!holds(document, test)) {
                broken++;
            }
        }
        System.out.println(tests.getName() + ": " + all.size() + " sentences, " + broken + " do not hold");
        if (broken != 0 || all.isEmpty()) {
            System.exit(1);
        }
    }

    private static boolean holds(Document document, Method test) throws ReflectiveOperationException {
        Says says = test.getAnnotation(Says.class);
        Check check = new Check((says.promise() == 0 ? "terms" : "promise " + says.promise())
            + ", '" + says.words() + "', " + test.getName());
        check.due("the words stand there", document.part(says.promise()).contains(says.words()), true);
        try {
            test.invoke(null, check);
        } catch (InvocationTargetException thrown) {
            check.due("it threw " + thrown.getCause(), true, false);
        }
        return check.passed();
    }
}
