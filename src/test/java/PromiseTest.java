/** One method for each promise: ordinary inputs, the edges that the document names, and wrong inputs. */
public final class PromiseTest {
    private static final int NONE = SealLine.NONE;
    private static final int FAR = Lines.FAR;
    private static final int FAR_BELOW = Lines.FAR_BELOW;
    private static final Check CHECK = new Check("PromiseTest");

    private PromiseTest() {
    }

    public static void main(String[] args) {
        promise1();
        promise2();
        promise3();
        promise4();
        promise5();
        promise6();
        promise7();
        promise8();
        promise9();
        promise10();
        promise11();
        promise12();
        promise13();
        promise14();
        promise15();
        promise16();
        promise17();
        promise18();
        promise19();
        promise20();
        promise21();
        promise22();
        promise23();
        promise24();
        promise25();
        promise26();
        promise27();
        promise28();
        promise29();
        CHECK.finish();
    }

    private static void due(String call, long got, long want) {
        CHECK.due(call, got, want);
    }

    private static void due(String call, boolean got, boolean want) {
        CHECK.due(call, got, want);
    }

    private static SealLine withRule(String text) {
        SealLine x = new SealLine();
        Lines.feedText(x, text);
        due("rule() of " + text, x.rule(), 0);
        return x;
    }

    private static void dueFault(String text, int want) {
        SealLine x = new SealLine();
        Lines.feedText(x, text);
        due("fault() of '" + text + "'", x.fault(), want);
    }

    private static void promise1() {
        SealLine x = new SealLine();
        int[] counts = {0, 0, 0, 0, 0, 0, 0, 0, NONE};
        for (int what = 0; what < counts.length; what++) {
            due("new: count(" + what + ")", x.count(what), counts[what]);
        }
        for (int key = 0; key < 4; key++) {
            due("new: key, 0", x.key(key, 0), 0);
            due("new: key, 1", x.key(key, 1), 0);
            due("new: key, 2", x.key(key, 2), NONE);
            due("new: key, 3", x.key(key, 3), 0);
        }
        due("new: fault()", x.fault(), 0);
        due("new: least()", x.least(), 3);
        due("new: called(0)", x.called(0), NONE);
        due("new: file(0, 0)", x.file(0, 0), NONE);
        due("new: note(0, 0)", x.note(0, 0), NONE);
        due("new: sealed(0, 0)", x.sealed(0, 0), NONE);
        due("new: find(0)", x.find(0L), NONE);
        SealLine other = new SealLine();
        other.source(0, 1L);
        due("objects share nothing", x.count(1), 0);
    }

    private static void promise2() {
        SealLine x = new SealLine();
        due("source(0, 5)", x.source(0, 5L), 0);
        due("source(11, 0)", x.source(11, 0L), 1);
        due("source(1, -5)", x.source(1, -5L), 2);
        due("source(3, 5), there", x.source(3, 5L), 0);
        due("its makers", x.file(0, 6), 0b1001);
        due("its note", x.note(3, 1), 0);
        due("it is clean", x.file(0, 0), 1);
        for (int hand : new int[] {-1, 12, FAR, FAR_BELOW}) {
            due("source(" + hand + ", 9)", x.source(hand, 9L), NONE);
        }
        due("nothing came of it", x.count(0) * 100 + x.count(1), 403);
        Lines.fillFiles(x);
        due("source() of file 101", x.source(0, 9L), NONE);
        due("source() of one of 100", x.source(0, 5099L), 99);
        Lines.fillNotes(x, 400);
        due("source() as note 401", x.source(0, 5L), NONE);
        SealLine full = new SealLine();
        full.source(0, 1L);
        Lines.fillNotes(full, 399);
        due("source() as note 400", full.source(0, 2L), 1);
        due("source() of a new file as note 401", full.source(0, 3L), NONE);
        due("no file came of it", full.count(1), 2);
    }

    private static void promise3() {
        SealLine x = Lines.withTwoFiles();
        due("build() that does not meet", x.build(2, 5, 0, 1, 0, 77L), 2);
        due("its inputs: a", x.note(2, 4), 0);
        due("its inputs: b", x.note(2, 5), 1);
        due("its inputs: c", x.note(2, 6), 0);
        due("its row", x.file(2, 5), 3);
        due("not clean", x.file(2, 0), 0);
        due("build() of one that is there", x.build(3, 0, 1, NONE, NONE, 77L), 2);
        due("build() of what went in", x.build(3, 0, 2, NONE, NONE, 77L), NONE);
        due("build() of what went into a", x.build(3, 0, 2, NONE, NONE, 10L), NONE);
        x.source(4, 88L);
        due("build() of what went into b", x.build(3, 0, 3, 2, NONE, 10L), NONE);
        due("build() of what went into c", x.build(3, 0, 3, 3, 2, 10L), NONE);
        due("build() of a source", x.build(3, 0, 3, NONE, NONE, 10L), 0);
        due("rows grow behind it", x.file(2, 5), 4);
        due("build() with c", x.build(5, 0, 0, 0, 1, 66L), 4);
        due("its row with c", x.file(4, 5), 4);
        due("and so do makers", x.file(1, 6), 0b11011);
        due("makers by c", x.file(4, 6), 0b111011);
        due("build() in a ring", x.build(3, 0, 2, NONE, NONE, 88L), NONE);
        dueWrongBuilds(x);
        Lines.fillFiles(x);
        due("build() of file 101", x.build(0, 0, 0, NONE, NONE, 9L), NONE);
        due("build() of one of 100", x.build(0, 0, 0, NONE, NONE, 5099L), 99);
        Lines.fillNotes(x, 399);
        due("build() as note 400", x.build(0, 0, 0, NONE, NONE, 5098L), 98);
        due("build() as note 401", x.build(0, 0, 0, NONE, NONE, 5097L), NONE);
    }

    private static void dueWrongBuilds(SealLine x) {
        int before = x.count(0);
        int[][] wrong = {
            {-1, 0, 0, -1, -1}, {12, 0, 0, -1, -1}, {0, -1, 0, -1, -1}, {0, 6, 0, -1, -1},
            {0, 0, -1, -1, -1}, {0, 0, 5, -1, -1}, {0, 0, 0, -2, -1}, {0, 0, 0, 5, -1},
            {0, 0, 0, -1, 0}, {0, 0, 0, 0, -2}, {0, 0, 0, 0, 5}, {0, 0, -1, 0, 0},
            {FAR, 0, 0, -1, -1}, {0, FAR_BELOW, 0, -1, -1}, {0, 0, FAR, -1, -1}, {0, 0, 0, 0, FAR_BELOW},
        };
        for (int[] w : wrong) {
            due("build() with what is not there", x.build(w[0], w[1], w[2], w[3], w[4], 99L), NONE);
        }
        due("no note came of it", x.count(0), before);
        due("no file came of it", x.find(99L), NONE);
    }

    private static void promise4() {
        SealLine x = new SealLine();
        x.source(0, 7L);
        x.source(0, -3L);
        long one = (1L ^ 7L) * 6364136223846793005L + 1442695040888963407L;
        long two = (one ^ -3L) * 6364136223846793005L + 1442695040888963407L;
        long three = (two ^ 7L) * 6364136223846793005L + 1442695040888963407L;
        due("mix(0, 0, -1, -1)", x.mix(0, 0, NONE, NONE), one);
        due("mix(0, 0, 1, -1)", x.mix(0, 0, 1, NONE), two);
        due("mix(0, 0, 1, 0)", x.mix(0, 0, 1, 0), three);
        due("mix(5, 0, -1, -1)", x.mix(5, 0, NONE, NONE), (6L ^ 7L) * 6364136223846793005L + 1442695040888963407L);
        int[][] wrong = {{-1, 0, -1, -1}, {6, 0, -1, -1}, {0, -1, -1, -1}, {0, 2, -1, -1},
            {0, 0, 2, -1}, {0, 0, -2, -1}, {0, 0, -1, 0}, {0, 0, 1, 2}, {0, 0, 1, -2}, {FAR, FAR, FAR, FAR}};
        for (int[] w : wrong) {
            due("mix() with what is not there", x.mix(w[0], w[1], w[2], w[3]), 0L);
        }
        due("mix() is no note", x.count(0), 2);
    }

    private static void promise5() {
        SealLine x = Lines.withTwoFiles();
        due("tries(0, 1, true)", x.tries(0, 1, true), 2);
        due("tries(11, 1, true)", x.tries(11, 1, true), 3);
        due("t, makers too", x.file(1, 2), 2);
        due("t of another", x.file(0, 2), 0);
        due("tries(11, 1, true) again", x.tries(11, 1, true), 4);
        due("t, none twice", x.file(1, 2), 2);
        due("tries(11, 1, false)", x.tries(11, 1, false), 5);
        due("t, the latest", x.file(1, 2), 1);
        due("no r by tries", x.file(1, 3), 0);
        due("tries(12, 1, true)", x.tries(12, 1, true), NONE);
        due("tries(-1, 1, true)", x.tries(-1, 1, true), NONE);
        due("tries(0, 2, true)", x.tries(0, 2, true), NONE);
        due("tries(0, -1, true)", x.tries(0, -1, true), NONE);
        Lines.fillNotes(x, 399);
        due("tries() as note 400", x.tries(0, 0, true), 399);
        due("tries() as note 401", x.tries(1, 0, true), NONE);
        due("t unmoved by it", x.file(0, 2), 1);
    }

    private static void promise6() {
        SealLine x = Lines.withTwoFiles();
        due("review(5, 1, true)", x.review(5, 1, true), 2);
        due("review(0, 1, true) of a maker", x.review(0, 1, true), 3);
        due("r without makers", x.file(1, 3), 1);
        due("review(1, 0, true): no maker of 0", x.review(1, 0, true), 4);
        due("r of 0", x.file(0, 3), 1);
        due("no t by reviews", x.file(1, 2), 0);
        due("review(5, 1, false)", x.review(5, 1, false), 5);
        due("r, the latest", x.file(1, 3), 0);
        x.review(6, 1, true);
        x.source(6, 10L);
        due("a maker since then", x.file(1, 3), 0);
        due("review(12, 1, true)", x.review(12, 1, true), NONE);
        due("review(-1, 1, true)", x.review(-1, 1, true), NONE);
        due("review(0, 2, true)", x.review(0, 2, true), NONE);
        due("review(0, -1, true)", x.review(0, -1, true), NONE);
        Lines.fillNotes(x, 399);
        due("review() as note 400", x.review(3, 0, true), 399);
        due("review() as note 401", x.review(4, 0, true), NONE);
        due("r unmoved by it", x.file(0, 3), 2);
    }

    private static void promise7() {
        SealLine x = new SealLine();
        due("feed(0)", x.feed(0), 0);
        due("feed('t', 0, '=', 0)", x.feed('t' << 24 | '=' << 8), 2);
        due("feed(0, 0, 0, '1')", x.feed('1'), 3);
        due("the highest came first", x.fault(), NONE);
        due("feed(0xFF800000)", x.feed(0xFF800000), 5);
        due("fault at 255", x.fault(), 3);
        SealLine full = new SealLine();
        for (int i = 0; i < 24; i++) {
            full.feed(0x20202020);
        }
        due("feed() up to 99", full.feed(0x20200020), 99);
        due("feed() beyond 100", full.feed(0x20002000), NONE);
        due("nothing came of it", full.count(5), 99);
        due("feed() up to 100", full.feed(0x00200000), 100);
        due("feed(1) beyond 100", full.feed(1), NONE);
        due("feed(0) at 100", full.feed(0), 100);
    }

    private static void promise8() {
        SealLine x = new SealLine();
        due("end(0) of none", x.end(0), true);
        due("end(1) of none", x.end(1), false);
        Lines.feedText(x, "t=1&");
        due("end(5)", x.end(5), false);
        due("end(-1)", x.end(-1), false);
        due("end(far)", x.end(FAR), false);
        due("end(far below)", x.end(FAR_BELOW), false);
        due("nothing came of it", x.count(5), 4);
        due("end(4)", x.end(4), true);
        due("end(3)", x.end(3), true);
        due("its length", x.count(5), 3);
        due("end(4) then", x.end(4), false);
        due("its fault", x.fault(), NONE);
        Lines.feedText(x, "2");
        due("feed() goes on there", x.count(5), 4);
        due("t=12", x.fault(), NONE);
    }

    private static void promise9() {
        for (String good : new String[] {"t=1", "r<99", "b>00", "t=1&r=2|b=3", "((t=1))", "(t=1|r=2)&b=3",
            " t = 1 & ( r < 12 ) | b > 0 ", "((((((((t=1))))))))", "(t=1)&((((((((r=1))))))))|b=2"}) {
            dueFault(good, NONE);
        }
        Object[][] wrong = {{"", 0}, {"  ", 2}, {"x", 0}, {"T=1", 0}, {"t", 1}, {"t ", 2}, {"tt", 1}, {"t=", 2},
            {"t=x", 2}, {"t==1", 2}, {"t=1=", 3}, {"t=123", 4}, {"t=1 2", 4}, {"t=12 3", 5}, {"t=1&", 4},
            {"t=1||r=1", 4}, {"t=1&&r=1", 4}, {"t=1)", 3}, {"(t=1", 4}, {"()", 1}, {"(t=1)(r=1)", 5},
            {"(t=1)t=1", 5}, {"t=1(r=1)", 3}, {"(((((((((t=1", 8}, {"((((((((t=1)|(((r=1", 14}, {"&t=1", 0},
            {"|t=1", 0}, {")", 0}, {"1", 0}, {"=1", 0}, {"t1", 1}, {"t=-1", 2}, {"t=1\t&r=1", 3}, {"t=1&r", 5},
            {"t=1|(r=2|b=3", 12}, {"t\u00e9", 1}};
        for (Object[] row : wrong) {
            dueFault((String) row[0], (Integer) row[1]);
        }
        SealLine x = new SealLine();
        Lines.feedText(x, "t=1");
        x.fault();
        due("fault() leaves the tape", x.count(5), 3);
    }

    private static void promise10() {
        SealLine x = new SealLine();
        due("rule() of none", x.rule(), NONE);
        Lines.feedText(x, "t=1&");
        due("rule() with a fault", x.rule(), NONE);
        due("the tape is left", x.count(5), 4);
        Lines.feedText(x, "r=1");
        due("rule()", x.rule(), 0);
        due("the tape is empty", x.count(5), 0);
        due("one rule", x.count(2), 1);
        for (int i = 1; i < 20; i++) {
            Lines.feedText(x, "t=0");
            due("rule() again", x.rule(), i);
        }
        Lines.feedText(x, "t=1");
        due("rule 21", x.rule(), NONE);
        due("the tape is left there", x.count(5), 3);
        due("twenty rules", x.count(2), 20);
        due("the latest is in force", x.least(), 3);
    }

    private static void promise11() {
        SealLine x = Lines.withTwoFiles();
        due("ask(1)", x.ask(1), 0);
        due("ask(0)", x.ask(0), 1);
        due("ask(1) twice", x.ask(1), NONE);
        due("ask(0) twice", x.ask(0), NONE);
        due("ask(2)", x.ask(2), NONE);
        due("ask(-1)", x.ask(-1), NONE);
        due("ask(far)", x.ask(FAR), NONE);
        due("how long", x.count(4), 2);
        x.skip();
        due("ask(1) again", x.ask(1), 1);
        due("ask() is no note", x.count(0), 2);
        SealLine full = new SealLine();
        Lines.fillFiles(full);
        for (int file = 99; file >= 0; file--) {
            due("ask() of a hundred", full.ask(file), 99 - file);
        }
    }

    private static void promise12() {
        SealLine x = Lines.withTwoFiles();
        due("skip() of none", x.skip(), NONE);
        x.ask(1);
        x.ask(0);
        due("skip()", x.skip(), 1);
        due("the next is first", x.count(8), 0);
        due("its place", x.file(0, 7), 0);
        due("skip() again", x.skip(), 0);
        due("skip() of none again", x.skip(), NONE);
        due("nothing sealed", x.count(3), 0);
    }

    private static void promise13() {
        SealLine x = Lines.withTwoFiles();
        due("seal() of none", x.seal(5, 6, 0), NONE);
        x.ask(1);
        x.ask(0);
        x.uses(3, 2);
        due("seal() without uses", x.seal(5, 6, 0), NONE);
        due("seal() by a maker", x.seal(5, 0, 3), NONE);
        due("seal()", x.seal(5, 6, 3), 0);
        due("a note", x.note(2, 0), 4);
        due("one use less", x.key(3, 0), 1);
        due("it left the queue", x.count(8), 0);
        due("a maker of 1 alone may seal 0", x.seal(1, 11, 3), 1);
        x.ask(0);
        due("no uses left", x.seal(5, 6, 3), NONE);
        due("it stays in the queue", x.count(4), 1);
        x.uses(2, 1);
        due("sealed again", x.seal(5, 6, 2), 2);
        due("three seals stand", x.count(6), 3);
        SealLine full = Lines.readyToSeal(2);
        Lines.fillNotes(full, 399);
        due("seal() as note 400", full.seal(1, 2, 0), 0);
        full.ask(0);
        due("seal() as note 401", full.seal(1, 2, 0), NONE);
        due("its use is left", full.key(0, 0), 1);
    }

    private static void promise14() {
        SealLine x = new SealLine();
        x.source(0, 10L);
        x.build(1, 0, 0, NONE, NONE, 77L);
        due("why() 1", x.why(-1, -1, -1), 1);
        x.ask(1);
        for (int[] hands : new int[][] {{-1, 5}, {5, 12}, {12, 5}, {5, -1}, {5, 5}, {FAR, 5}, {0, 0}}) {
            due("why() 2", x.why(hands[0], hands[1], -1), 2);
        }
        for (int[] hands : new int[][] {{0, 5}, {5, 0}, {1, 5}, {5, 1}, {0, 1}}) {
            due("why() 3", x.why(hands[0], hands[1], -1), 3);
        }
        for (int key : new int[] {-1, 4, 0, FAR, FAR_BELOW}) {
            due("why() 4", x.why(5, 6, key), 4);
        }
        x.uses(0, 1);
        x.recall(0, 0, 0);
        Lines.feedText(x, "t>0");
        x.rule();
        due("why() 5", x.why(5, 6, 0), 5);
        x.source(1, 77L);
        due("why() 6", x.why(5, 6, 0), 6);
        x.tries(2, 1, true);
        due("why() 7", x.why(5, 6, 0), 7);
        Lines.fillNotes(x, 400);
        due("why() 7 ahead of 8", x.why(5, 6, 0), 7);
        x.finish(0);
        due("why() 4, ended", x.why(5, 6, 0), 4);
        SealLine full = Lines.readyToSeal(1);
        Lines.fillNotes(full, 399);
        due("why() 0", full.why(1, 2, 0), 0);
        due("why() does nothing", full.count(0), 399);
        Lines.fillNotes(full, 400);
        due("why() 8", full.why(1, 2, 0), 8);
        full.lose(0, 400);
        due("why() 4, lost", full.why(1, 2, 0), 4);
    }

    private static void promise15() {
        SealLine x = new SealLine();
        due("uses(0, 1)", x.uses(0, 1), 1);
        due("uses(0, 1000)", x.uses(0, 1000), 1001);
        due("uses(3, 7)", x.uses(3, 7), 7);
        for (int many : new int[] {0, -1, 1001, FAR, FAR_BELOW}) {
            due("uses(0, " + many + ")", x.uses(0, many), NONE);
        }
        for (int key : new int[] {-1, 4, FAR, FAR_BELOW}) {
            due("uses(" + key + ", 1)", x.uses(key, 1), NONE);
        }
        x.finish(0);
        due("uses() of an ended one", x.uses(0, 1), NONE);
        x.lose(3, 0);
        due("uses() of a lost one", x.uses(3, 1), NONE);
        due("they stay", x.key(0, 0), 1001);
    }

    private static void promise16() {
        SealLine x = new SealLine();
        due("finish(3)", x.finish(3), true);
        due("finish(3) again", x.finish(3), false);
        due("it is ended", x.key(3, 1), 1);
        due("finish(-1)", x.finish(-1), false);
        due("finish(4)", x.finish(4), false);
        x.lose(1, 0);
        due("finish() of a lost one", x.finish(1), false);
        due("it is not ended", x.key(1, 1), 0);
        SealLine y = Lines.readyToSeal(2);
        y.seal(1, 2, 0);
        y.finish(0);
        due("its seal stands", y.sealed(0, 6), 1);
    }

    private static void promise17() {
        SealLine x = Lines.readyToSeal(10);
        x.uses(1, 10);
        x.seal(1, 2, 0);
        x.ask(0);
        x.seal(1, 2, 1);
        x.ask(0);
        x.seal(1, 2, 0);
        due("lose(-1, 0)", x.lose(-1, 0), NONE);
        due("lose(4, 0)", x.lose(4, 0), NONE);
        due("lose(0, -1)", x.lose(0, -1), NONE);
        due("lose(0, 5)", x.lose(0, 5), NONE);
        due("lose(2, 4), none sealed", x.lose(2, 4), 0);
        due("lose(0, 3)", x.lose(0, 3), 1);
        due("on that tick", x.sealed(2, 6), 0);
        due("ahead of it", x.sealed(0, 6), 1);
        due("another key", x.sealed(1, 6), 1);
        due("lose(0, 0) again", x.lose(0, 0), NONE);
        due("since when", x.key(0, 2), 3);
        x.recall(0, 0, 0);
        x.finish(1);
        due("lose() of an ended one, called back", x.lose(1, 0), 1);
        due("lose(3, 0)", x.lose(3, 0), 0);
        SealLine first = Lines.readyToSeal(1);
        first.seal(1, 2, 0);
        due("lose() of the first seal's key", first.lose(0, 1), 1);
    }

    private static void promise18() {
        SealLine x = Lines.withTwoFiles();
        x.source(1, 99L);
        x.build(3, 4, 2, NONE, NONE, 98L);
        for (int[] w : new int[][] {{-1, 0, 0}, {3, 0, 0}, {0, 4, 0}, {0, -1, 0}, {1, 6, 0}, {1, -1, 0},
            {2, 12, 0}, {2, -1, 0}, {1, 0, 401}, {1, 0, -1}, {2, 0, 401}, {2, 0, -1}, {FAR, FAR, FAR}}) {
            due("recall() of what is not there", x.recall(w[0], w[1], w[2]), NONE);
        }
        due("recall(1, 2, 2): behind it", x.recall(1, 2, 2), 0);
        due("recall(1, 4, 3): on its tick", x.recall(1, 4, 3), 1);
        due("recall(2, 1, 400)", x.recall(2, 1, 400), 1);
        due("recall(2, 1, 2): a source", x.recall(2, 1, 2), 2);
        due("recall(0, 0, far)", x.recall(0, 0, FAR), 4);
        SealLine y = Lines.withTwoFiles();
        due("recall(2, 9, 3)", y.recall(2, 9, 3), 0);
        due("recall(1, 5, 0)", y.recall(1, 5, 0), 0);
        y.source(9, 50L);
        due("a note ahead of the tick", y.count(7), 0);
        y.source(9, 51L);
        due("a note behind the call", y.file(3, 1), 1);
        y.build(0, 5, 0, NONE, NONE, 52L);
        due("a tool behind the call", y.file(4, 1), 1);
        y.tries(9, 0, true);
        y.review(9, 0, true);
        due("tries and reviews are not made", y.file(0, 1), 0);
        y.build(0, 0, 3, NONE, NONE, 53L);
        due("what hangs on it", y.file(5, 1), 1);
        SealLine many = Lines.withTwoFiles();
        for (int i = 0; i < 50; i++) {
            due("recall() of fifty", many.recall(0, 1, 0), 1);
        }
        due("recall 51", many.recall(0, 0, 0), NONE);
        due("recall 51 of a tool", many.recall(1, 2, 0), NONE);
        due("nothing came of it", many.count(7), 1);
        SealLine tools = Lines.withTwoFiles();
        for (int i = 0; i < 50; i++) {
            due("recall() of fifty tools and hands", tools.recall(1 + i % 2, 5, i), 0);
        }
        due("recall 51 of a file", tools.recall(0, 0, 0), NONE);
        due("recall 51 of a hand", tools.recall(2, 0, 0), NONE);
        SealLine full = new SealLine();
        full.source(0, 1L);
        Lines.fillNotes(full, 398);
        full.recall(2, 1, 399);
        full.recall(2, 2, 400);
        full.source(1, 2L);
        full.source(2, 3L);
        due("the last notes are not called back", full.count(7), 0);
        due("the last tick", full.recall(2, 2, 399), 1);
        SealLine last = new SealLine();
        last.source(0, 1L);
        Lines.fillNotes(last, 399);
        last.recall(1, 0, 399);
        last.recall(1, 1, 400);
        last.recall(2, 4, 399);
        last.build(3, 2, 0, NONE, NONE, 2L);
        due("note 400 of another tool and hand", last.count(7), 0);
        due("note 400 of its tool", last.recall(1, 2, 399), 1);
        due("and since an earlier tick", last.recall(1, 2, 0), 1);
        SealLine twice = Lines.withTwoFiles();
        twice.recall(2, 7, 2);
        twice.recall(2, 7, 300);
        twice.source(7, 20L);
        due("the earlier tick counts", twice.count(7), 1);
    }

    private static void promise19() {
        SealLine x = Lines.withTwoFiles();
        x.build(4, 2, 0, NONE, NONE, x.hash(1));
        x.build(4, 2, 0, NONE, NONE, x.hash(1));
        x.tries(0, 1, true);
        x.review(7, 1, true);
        x.review(8, 1, true);
        x.review(9, 1, true);
        x.ask(0);
        x.ask(1);
        x.uses(0, 5);
        x.skip();
        x.seal(10, 11, 0);
        x.ask(0);
        x.ask(1);
        int[] want = {1, 0, 1, 3, 2, 2, 0b10011, 1, 1};
        for (int what = 0; what < want.length; what++) {
            due("file(1, " + what + ")", x.file(1, what), want[what]);
        }
        x.recall(0, 0, 0);
        due("called back by its row", x.file(1, 1), 1);
        due("no seal of it stands", x.file(1, 8), 0);
        for (int[] w : new int[][] {{1, 9}, {1, -1}, {2, 0}, {-1, 0}, {FAR, 0}, {1, FAR}, {1, FAR_BELOW}}) {
            due("file() for others", x.file(w[0], w[1]), NONE);
        }
        SealLine late = new SealLine();
        late.source(0, 1L);
        late.build(0, 0, 0, NONE, NONE, 55L);
        long sum = late.mix(3, 1, NONE, NONE);
        late.build(1, 3, 1, NONE, NONE, sum);
        late.build(2, 0, 2, 0, NONE, late.mix(0, 2, 0, NONE));
        due("not clean yet", late.file(2, 0) + late.file(3, 0), 0);
        late.source(5, 55L);
        due("clean by what came later", late.file(2, 0) + late.file(3, 0), 2);
        dueCleanAgainstTheOrder();
        dueLongRow();
    }

    /** Each FILE of a chain is there by a BUILD that does not meet, and the ends of the chain are built first. */
    private static void dueCleanAgainstTheOrder() {
        SealLine x = new SealLine();
        x.source(0, 1L);
        x.build(0, 0, 0, NONE, NONE, 55L);
        for (int file = 1; file < 9; file++) {
            x.build(0, 1, 0, NONE, NONE, x.mix(0, file, NONE, NONE));
        }
        for (int file = 9; file > 1; file--) {
            due("build() of the chain", x.build(1, 0, file - 1, NONE, NONE, x.hash(file)), file);
        }
        due("no end is clean yet", x.file(9, 0), 0);
        x.source(0, 55L);
        for (int file = 1; file <= 9; file++) {
            due("clean through the chain", x.file(file, 0), 1);
        }
    }

    private static void dueLongRow() {
        SealLine x = new SealLine();
        x.source(3, 1L);
        for (int file = 1; file < 100; file++) {
            x.build(4, 0, file - 1, NONE, NONE, x.mix(0, file - 1, NONE, NONE));
            due("row of a long chain", x.file(file, 5), file + 1);
        }
        due("makers of a long chain", x.file(99, 6), 0b11000);
        due("the chain is clean", x.file(99, 0), 1);
        due("a ring through the chain", x.build(4, 0, 99, NONE, NONE, x.hash(64)), NONE);
        due("proof of the chain", x.proof(99, 99), 99);
        due("called back from within", x.recall(0, 64, 0), 36);
        x.source(5, x.hash(70));
        due("a maker far down", x.file(99, 6), 0b111000);
        due("no maker further down", x.file(69, 6), 0b11000);
    }

    private static void promise20() {
        SealLine x = new SealLine();
        x.source(0, Long.MIN_VALUE);
        x.source(0, 0L);
        x.source(0, -1L);
        due("hash(0)", x.hash(0), Long.MIN_VALUE);
        due("hash(1)", x.hash(1), 0L);
        due("hash(2)", x.hash(2), -1L);
        due("hash(3)", x.hash(3), 0L);
        due("hash(-1)", x.hash(-1), 0L);
        due("hash(far)", x.hash(FAR), 0L);
    }

    private static void promise21() {
        SealLine x = new SealLine();
        due("find(0) of none", x.find(0L), NONE);
        x.source(0, 1L << 32);
        x.source(0, 0L);
        due("find(2^32)", x.find(1L << 32), 0);
        due("find(0)", x.find(0L), 1);
        due("find(1)", x.find(1L), NONE);
        due("find(-2^32)", x.find(-1L << 32), NONE);
        Lines.fillFiles(x);
        due("find() of the last", x.find(5099L), 99);
    }

    private static void promise22() {
        SealLine x = Lines.withTwoFiles();
        x.ask(0);
        x.ask(1);
        x.uses(2, 5);
        x.uses(3, 5);
        x.seal(7, 3, 2);
        Lines.feedText(x, "t=0");
        x.rule();
        Lines.feedText(x, "t<1");
        x.rule();
        x.seal(4, 11, 3);
        int[] first = {0, 2, 2, 7, 3, NONE, 1};
        int[] second = {1, 3, 3, 4, 11, 1, 1};
        for (int what = 0; what < 7; what++) {
            due("sealed(0, " + what + ")", x.sealed(0, what), first[what]);
            due("sealed(1, " + what + ")", x.sealed(1, what), second[what]);
        }
        x.recall(0, 1, 0);
        due("called back", x.sealed(1, 6), 0);
        due("not called back", x.sealed(0, 6), 1);
        x.lose(2, 2);
        due("its key lost", x.sealed(0, 6), 0);
        for (int[] w : new int[][] {{0, -1}, {0, 7}, {2, 0}, {2, 6}, {-1, 6}, {-1, 0}, {FAR, FAR}}) {
            due("sealed() for others", x.sealed(w[0], w[1]), NONE);
        }
    }

    private static void promise23() {
        SealLine x = Lines.withTwoFiles();
        x.build(2, 5, 1, 0, 1, 99L);
        x.tries(3, 1, true);
        x.tries(3, 1, false);
        x.review(4, 2, true);
        x.ask(0);
        x.uses(0, 1);
        x.seal(9, 8, 0);
        int[][] want = {
            {0, 0, 0, NONE, NONE, NONE, NONE, NONE},
            {1, 1, 1, 2, 0, NONE, NONE, 1},
            {1, 2, 2, 5, 1, 0, 1, 0},
            {2, 1, 3, NONE, NONE, NONE, NONE, 1},
            {2, 1, 3, NONE, NONE, NONE, NONE, 0},
            {3, 2, 4, NONE, NONE, NONE, NONE, 1},
            {4, 0, 9, NONE, NONE, NONE, NONE, NONE},
        };
        for (int note = 0; note < want.length; note++) {
            for (int what = 0; what < 8; what++) {
                due("note(" + note + ", " + what + ")", x.note(note, what), want[note][what]);
            }
        }
        for (int[] w : new int[][] {{0, -1}, {0, 8}, {7, 0}, {-1, 0}, {-1, 8}, {FAR, FAR}, {FAR_BELOW, 0}}) {
            due("note() for others", x.note(w[0], w[1]), NONE);
        }
    }

    private static final Object[][] JUDGED = {
        {"t=0", 3, 1}, {"t>3", 4, 1}, {"t=12", 12, 1}, {"t>12", NONE, NONE}, {"t=13", NONE, NONE},
        {"t<1", 3, 1}, {"t<0", NONE, NONE}, {"t>99", NONE, NONE}, {"t<99", 3, 1},
        {"r=2", 3, 1}, {"r=3", 4, 1}, {"r>10", 12, 1}, {"r>11", NONE, NONE}, {"r=12", NONE, NONE},
        {"b=1", 3, 1}, {"b=2", 4, 2}, {"b>9", 12, 10}, {"b>10", NONE, NONE}, {"b=10&r=3", NONE, NONE},
        {"b=2|t=4", 4, 1}, {"b=3|t=5", 5, 1}, {"b=3|t=6", 5, 3}, {"b>1&r>2&t>8", 9, 2},
        {"(b=2|b=3)&(t=6|r=3)", 5, 2}, {"t=1&t=2", NONE, NONE}, {"t=1&t=2|r=5", 6, 1},
        {"t=1&(t=2|r=5)", 6, 1}, {"t>00&b<01", 3, 1}, {"t=1|t=2&t=3", 3, 1}, {"(t=1|t=2)&t=3", NONE, NONE},
        {"((((((((t=4))))))))", 4, 1}, {"((((((((t=5|r=9))))))))&b=3", 5, 3}, {"t=9|t=7|t=8", 7, 1},
        {"(t=9)&(t=9|t=8)|((((((((r=5|b=9))))))))", 6, 1}, {"r<1&b<1", 3, 1}, {"r<4&r>2", 4, 1}, {"b<3&b>1", 4, 2},
    };

    private static void promise24() {
        due("least() without a rule", new SealLine().least(), 3);
        for (Object[] row : JUDGED) {
            due("least() by " + row[0], withRule((String) row[0]).least(), (Integer) row[1]);
        }
        SealLine x = withRule("t=12");
        due("least()", x.least(), 12);
        Lines.feedText(x, "t=0&");
        due("least() while a tape is fed", x.least(), 12);
        x.rule();
        due("least() by the same rule", x.least(), 12);
        Lines.feedText(x, "r=4");
        x.rule();
        due("least() by the next rule", x.least(), 5);
    }

    private static void promise25() {
        due("makers() without a rule", new SealLine().makers(), 1);
        for (Object[] row : JUDGED) {
            due("makers() by " + row[0], withRule((String) row[0]).makers(), (Integer) row[2]);
        }
        SealLine x = withRule("b=7");
        due("makers()", x.makers(), 7);
        Lines.feedText(x, "b=4");
        x.rule();
        due("makers() by the next rule", x.makers(), 4);
    }

    private static void dueProof(SealLine x, int file, int... want) {
        for (int i = 0; i < want.length; i++) {
            due("proof(" + file + ", " + i + ")", x.proof(file, i), want[i]);
        }
        due("proof(" + file + ", " + want.length + ")", x.proof(file, want.length), NONE);
    }

    private static void promise26() {
        SealLine x = Lines.withTwoFiles();
        dueProof(x, 0, 0);
        dueProof(x, 1, 0, 1);
        x.source(5, x.hash(1));
        dueProof(x, 1, 0, 1);
        x.source(5, 10L);
        x.source(6, 60L);
        x.build(7, 0, 2, 1, 2, x.mix(0, 2, 1, 2));
        dueProof(x, 3, 0, 1, 4, 5);
        dueProof(x, 0, 0);
        x.build(7, 0, 2, 2, 1, x.mix(0, 2, 2, 1));
        dueProof(x, 4, 0, 1, 4, 6);
        due("proof(3, -1)", x.proof(3, -1), NONE);
        due("proof(3, far)", x.proof(3, FAR), NONE);
        due("proof(5, 0)", x.proof(5, 0), NONE);
        due("proof(-1, 0)", x.proof(-1, 0), NONE);
        SealLine late = new SealLine();
        late.source(0, 1L);
        late.build(0, 0, 0, NONE, NONE, 55L);
        late.build(0, 0, 1, NONE, NONE, late.mix(0, 1, NONE, NONE));
        dueProof(late, 1);
        dueProof(late, 2);
        late.source(3, late.hash(2));
        dueProof(late, 2, 3);
        late.source(3, 55L);
        dueProof(late, 2, 2, 4);
        SealLine meets = new SealLine();
        meets.source(0, 1L);
        meets.build(0, 0, 0, NONE, NONE, 55L);
        meets.source(0, 55L);
        dueProof(meets, 1, 2);
    }

    private static void promise27() {
        SealLine x = Lines.withTwoFiles();
        x.source(5, 20L);
        x.source(6, 30L);
        x.build(6, 0, 1, NONE, NONE, 40L);
        due("called(0) of none", x.called(0), NONE);
        x.recall(0, 3, 0);
        x.recall(0, 1, 0);
        int[] want = {1, 3, 4, NONE};
        for (int i = 0; i < want.length; i++) {
            due("called(" + i + ")", x.called(i), want[i]);
        }
        due("called(-1)", x.called(-1), NONE);
        due("called(far)", x.called(FAR), NONE);
        due("called(far below)", x.called(FAR_BELOW), NONE);
        SealLine full = new SealLine();
        Lines.fillFiles(full);
        full.recall(0, 99, 0);
        full.recall(0, 63, 0);
        full.recall(0, 64, 0);
        due("called(0) of 100", full.called(0), 63);
        due("called(1) of 100", full.called(1), 64);
        due("called(2) of 100", full.called(2), 99);
        due("called(3) of 100", full.called(3), NONE);
        full.recall(0, 0, 0);
        due("called(0) is file 0", full.called(0), 0);
    }

    private static void promise28() {
        SealLine x = Lines.withTwoFiles();
        x.source(5, 20L);
        Lines.feedText(x, "t<5");
        x.rule();
        Lines.feedText(x, "t<");
        x.uses(0, 9);
        x.ask(2);
        x.ask(1);
        x.ask(0);
        x.seal(9, 8, 0);
        x.seal(9, 8, 0);
        x.recall(0, 2, 0);
        x.ask(1);
        x.ask(2);
        int[] want = {5, 3, 1, 2, 3, 2, 1, 1, 0};
        for (int what = 0; what < want.length; what++) {
            due("count(" + what + ")", x.count(what), want[what]);
        }
        for (int what : new int[] {-1, 9, FAR, FAR_BELOW}) {
            due("count(" + what + ")", x.count(what), NONE);
        }
    }

    private static void promise29() {
        SealLine x = Lines.readyToSeal(5);
        x.seal(1, 2, 0);
        x.uses(1, 3);
        x.finish(1);
        due("key(0, 0)", x.key(0, 0), 4);
        due("key(0, 3)", x.key(0, 3), 1);
        x.lose(0, 1);
        int[][] want = {{4, 0, 1, 1}, {3, 1, NONE, 0}, {0, 0, NONE, 0}, {0, 0, NONE, 0}};
        for (int key = 0; key < 4; key++) {
            for (int what = 0; what < 4; what++) {
                due("key(" + key + ", " + what + ")", x.key(key, what), want[key][what]);
            }
        }
        for (int[] w : new int[][] {{0, -1}, {0, 4}, {-1, 0}, {4, 0}, {FAR, 0}, {0, FAR_BELOW}}) {
            due("key() for others", x.key(w[0], w[1]), NONE);
        }
    }
}
