import java.lang.reflect.Method;

/** Each promise has a test of its edges, and so have the terms. */
public final class CoverTest {
    private static final int PROMISES = 29;
    private static final Class<?>[] TESTS = {
        FileEdgeTest.class, RuleEdgeTest.class, SealEdgeTest.class, RecallEdgeTest.class
    };

    private CoverTest() {
    }

    public static void main(String[] args) {
        Check check = new Check("CoverTest");
        int[] tests = new int[PROMISES + 1];
        for (Class<?> edges : TESTS) {
            for (Method test : Sentences.of(edges)) {
                tests[test.getAnnotation(Says.class).promise()]++;
            }
        }
        for (int promise = 0; promise <= PROMISES; promise++) {
            check.due("promise " + promise + " is tested", tests[promise] > 0, true);
        }
        check.finish();
    }
}
