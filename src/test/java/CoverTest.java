import java.io.IOException;
import java.lang.reflect.Method;

/** Every word of the terms and of each promise stands among the words that a test says it tests. */
public final class CoverTest {
    private static final Class<?>[] TESTS = {
        OrdinaryTest.class, FileEdgeTest.class, RuleEdgeTest.class, SealEdgeTest.class, RecallEdgeTest.class
    };

    private CoverTest() {
    }

    public static void main(String[] args) throws IOException {
        Check check = new Check("CoverTest");
        Document document = new Document();
        for (int promise = 0; promise <= Document.PROMISES; promise++) {
            String left = untested(document.sayings(promise), promise);
            check.due("promise " + promise + " says something", document.sayings(promise).isBlank(), false);
            check.due("promise " + promise + " is tested but for '" + left + "'", left.isEmpty(), true);
        }
        check.finish();
    }

    /** What no test says of a part, the gaps between told as ... */
    private static String untested(String sayings, int promise) {
        StringBuilder left = new StringBuilder(sayings);
        for (Class<?> tests : TESTS) {
            for (Method test : Sentences.of(tests)) {
                Says says = test.getAnnotation(Says.class);
                if (says.promise() == promise) {
                    blot(left, sayings, says.words());
                }
            }
        }
        return left.toString().replaceAll("[\0\\W]*\0[\0\\W]*", "...").replaceAll("^[.\\W]*$", "");
    }

    private static void blot(StringBuilder left, String sayings, String words) {
        for (int at = sayings.indexOf(words); at >= 0; at = sayings.indexOf(words, at + 1)) {
            left.replace(at, at + words.length(), "\0".repeat(words.length()));
        }
    }
}
