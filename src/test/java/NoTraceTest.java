import java.util.function.ToLongFunction;

/** A call that is refused, and one that only asks, leave the object as it was: all answers behind it are the same. */
public final class NoTraceTest {
    private static final int NONE = Lines.NONE;
    private static final Check CHECK = new Check("NoTraceTest");

    private NoTraceTest() {
    }

    public static void main(String[] args) {
        makersAndSayers();
        tapeAndRules();
        queueAndSeals();
        keys();
        recalls();
        questions();
        CHECK.finish();
    }

    /** Some of everything: the QUEUE has FILES 2 and 0, KEY 0 has 2 uses, KEY 1 is ended, KEY 2 LOST, the TAPE t=4. */
    private static SealLine busy() {
        SealLine x = Lines.withTwoFiles();
        x.source(2, 20L);
        x.build(3, 4, 1, 2, 0, 30L);
        x.tries(5, 2, true);
        x.review(6, 2, true);
        x.uses(0, 4);
        x.uses(1, 1);
        x.uses(2, 2);
        x.ask(0);
        x.seal(7, 8, 0);
        Lines.giveRule(x, "t=1&r=1");
        x.ask(2);
        x.seal(7, 8, 0);
        x.ask(2);
        x.seal(7, 8, 2);
        x.finish(1);
        x.lose(2, 8);
        x.recall(2, 3, 0);
        x.recall(1, 5, 9);
        x.ask(2);
        x.ask(0);
        Lines.feedText(x, "t=4");
        return x;
    }

    private static String trace(SealLine x) {
        StringBuilder told = new StringBuilder();
        for (int what = 0; what < 9; what++) {
            told.append(x.count(what)).append(' ');
        }
        for (int i = 0; i < 4; i++) {
            told.append("\nfile ").append(x.hash(i)).append(' ').append(x.called(i));
            for (int what = 0; what < 9; what++) {
                told.append(' ').append(x.file(i, what)).append(' ').append(x.proof(i, what / 2));
            }
            told.append(" key ");
            for (int what = 0; what < 4; what++) {
                told.append(' ').append(x.key(i, what));
            }
        }
        for (int i = 0; i < 10; i++) {
            told.append("\nnote, seal");
            for (int what = 0; what < 8; what++) {
                told.append(' ').append(x.note(i, what)).append(' ').append(x.sealed(i, what));
            }
        }
        return told.append('\n').append(whatFollows(x)).toString();
    }

    /** Changes, which tell what no question does: the bytes of the TAPE, the order of the QUEUE, open recalls. */
    private static String whatFollows(SealLine x) {
        StringBuilder told = new StringBuilder();
        told.append(x.least()).append(' ').append(x.makers()).append(' ').append(x.fault()).append(' ');
        told.append(x.why(7, 8, 0)).append(' ').append(x.seal(7, 8, 0)).append(' ').append(x.skip()).append(' ');
        told.append(x.rule()).append(' ').append(x.least()).append(' ').append(x.skip()).append(' ');
        for (int i = 0; i < 12; i++) {
            int file = x.source(i, 900L + i);
            told.append(file).append(' ').append(x.file(file, 1)).append(' ');
        }
        for (int i = 0; i < 6; i++) {
            int file = Lines.buildAs(x, 0, i, 0, 950L + i);
            told.append(file).append(' ').append(x.file(file, 1)).append(' ');
        }
        return told.append(x.uses(0, 1)).append(x.uses(3, 1)).toString();
    }

    private static void dueNoTrace(String call, ToLongFunction<SealLine> made, long want) {
        SealLine x = busy();
        CHECK.due(call, made.applyAsLong(x), want);
        CHECK.due("no trace of " + call, trace(x).equals(trace(busy())), true);
    }

    private static void refused(String call, ToLongFunction<SealLine> made) {
        dueNoTrace(call, made, NONE);
    }

    private static void makersAndSayers() {
        refused("source(12, 40)", x -> x.source(12, 40L));
        refused("source(-1, 10)", x -> x.source(-1, 10L));
        refused("build() by no hand", x -> x.build(12, 0, 0, NONE, NONE, 40L));
        refused("build() with no tool", x -> x.build(4, 6, 0, NONE, NONE, 40L));
        refused("build() of no file", x -> x.build(4, 0, 4, NONE, NONE, 40L));
        refused("build() of no file b", x -> x.build(4, 0, 0, 4, NONE, 40L));
        refused("build() of no file c", x -> x.build(4, 0, 0, 0, 4, 40L));
        refused("build() with c alone", x -> x.build(4, 0, 0, NONE, 1, 40L));
        refused("build() in a ring", x -> x.build(4, 0, 3, NONE, NONE, 10L));
        refused("build() of itself", x -> x.build(4, 0, 2, 0, 0, 20L));
        refused("tries() by no hand", x -> x.tries(12, 2, true));
        refused("tries() of no file", x -> x.tries(5, 4, false));
        refused("review() by no hand", x -> x.review(-1, 2, true));
        refused("review() of no file", x -> x.review(6, 4, false));
    }

    private static void tapeAndRules() {
        dueNoTrace("feed(0)", x -> x.feed(0), 3);
        dueNoTrace("end(4)", x -> x.end(4) ? 1 : 0, 0);
        dueNoTrace("end(-1)", x -> x.end(-1) ? 1 : 0, 0);
        dueNoTrace("end(3)", x -> x.end(3) ? 1 : 0, 1);
    }

    private static void queueAndSeals() {
        refused("ask() of no file", x -> x.ask(4));
        refused("ask() of the first", x -> x.ask(2));
        refused("ask() of the last", x -> x.ask(0));
        refused("seal() by hands alike", x -> x.seal(7, 7, 0));
        refused("seal() by no hand", x -> x.seal(7, 12, 0));
        refused("seal() by a maker", x -> x.seal(2, 7, 0));
        refused("seal() with no key", x -> x.seal(7, 8, 4));
        refused("seal() with a key that has no uses", x -> x.seal(7, 8, 3));
        refused("seal() with a key that is ended", x -> x.seal(7, 8, 1));
        refused("seal() with a key that is lost", x -> x.seal(7, 8, 2));
    }

    private static void keys() {
        refused("uses(0, 0)", x -> x.uses(0, 0));
        refused("uses(0, 1001)", x -> x.uses(0, 1001));
        refused("uses(0, -5)", x -> x.uses(0, -5));
        refused("uses(4, 1)", x -> x.uses(4, 1));
        refused("uses() of one that is ended", x -> x.uses(1, 1));
        refused("uses() of one that is lost", x -> x.uses(2, 1));
        dueNoTrace("finish(4)", x -> x.finish(4) ? 1 : 0, 0);
        dueNoTrace("finish() of one that is ended", x -> x.finish(1) ? 1 : 0, 0);
        dueNoTrace("finish() of one that is lost", x -> x.finish(2) ? 1 : 0, 0);
        refused("lose(0, -1)", x -> x.lose(0, -1));
        refused("lose(0, 10)", x -> x.lose(0, 10));
        refused("lose(4, 0)", x -> x.lose(4, 0));
        refused("lose() of one that is lost", x -> x.lose(2, 0));
    }

    private static void recalls() {
        refused("recall() of no sort", x -> x.recall(3, 0, 0));
        refused("recall() of no file", x -> x.recall(0, 4, 0));
        refused("recall() of no tool", x -> x.recall(1, 6, 0));
        refused("recall() of no hand", x -> x.recall(2, 12, 0));
        refused("recall() of a tool since 401", x -> x.recall(1, 2, 401));
        refused("recall() of a tool since -1", x -> x.recall(1, 2, -1));
        refused("recall() of a hand since 401", x -> x.recall(2, 0, 401));
        refused("recall() of a hand since -1", x -> x.recall(2, 0, -1));
    }

    private static void questions() {
        dueNoTrace("mix()", x -> x.mix(0, 4, NONE, NONE), 0L);
        dueNoTrace("fault()", x -> x.fault(), NONE);
        dueNoTrace("why()", x -> x.why(7, 8, 0), 0);
        dueNoTrace("least()", x -> x.least(), 3);
        dueNoTrace("makers()", x -> x.makers(), 1);
        dueNoTrace("file()", x -> x.file(2, 8), 1);
        dueNoTrace("hash()", x -> x.hash(2), 20L);
        dueNoTrace("find()", x -> x.find(40L), NONE);
        dueNoTrace("sealed()", x -> x.sealed(1, 5), 0);
        dueNoTrace("note()", x -> x.note(3, 6), 0);
        dueNoTrace("proof()", x -> x.proof(1, 1), 1);
        dueNoTrace("called()", x -> x.called(0), 3);
        dueNoTrace("count()", x -> x.count(4), 2);
        dueNoTrace("key()", x -> x.key(2, 2), 8);
    }
}
