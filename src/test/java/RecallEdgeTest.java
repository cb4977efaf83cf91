import java.io.IOException;
import java.util.Random;

/** The edges of what the document says of a new object, of calling back and of counts: a test for each sentence. */
public final class RecallEdgeTest {
    private static final int NONE = Lines.NONE;

    private RecallEdgeTest() {
    }

    public static void main(String[] args) throws IOException, ReflectiveOperationException {
        Sentences.run(RecallEdgeTest.class);
    }

    /** NOTES 0 to 7, each of a FILE of its own: SOURCES of HAND 1, and BUILDS of them by HAND 2 with TOOL 3. */
    private static SealLine withEightFiles() {
        SealLine x = new SealLine();
        for (int file = 0; file < 8; file++) {
            if (file % 2 == 0) {
                x.source(1, 100L + file);
            } else {
                Lines.buildAs(x, 2, 3, file - 1, 100L + file);
            }
        }
        return x;
    }

    private static void dueCalled(Check check, SealLine x, int... files) {
        for (int i = 0; i < files.length; i++) {
            check.due("called(" + i + ")", x.called(i), files[i]);
            check.due("file " + files[i] + " is called back", x.file(files[i], 1), 1);
        }
        check.due("called(" + files.length + ")", x.called(files.length), NONE);
        check.due("how many", x.count(7), files.length);
    }

    @Says(promise = 0, words = "what a TOOL built, or a HAND made (SOURCES, BUILDS), in NOTES on a TICK told or behind")
    static void sinceEachTick(Check check) {
        for (int since = 0; since <= 8; since++) {
            SealLine tools = withEightFiles();
            check.due("tool 3 since " + since, tools.recall(1, 3, since), (8 - since + 1) / 2);
            SealLine builders = withEightFiles();
            check.due("hand 2 since " + since, builders.recall(2, 2, since), (8 - since + 1) / 2);
            SealLine keepers = withEightFiles();
            check.due("hand 1 since " + since, keepers.recall(2, 1, since), (8 - since) / 2 * 2);
        }
        SealLine x = withEightFiles();
        x.recall(1, 3, 5);
        dueCalled(check, x, 5, 7);
        x.recall(2, 1, 6);
        dueCalled(check, x, 5, 6, 7);
        x.recall(1, 3, 3);
        dueCalled(check, x, 3, 5, 6, 7);
        x.recall(2, 2, 8);
        dueCalled(check, x, 3, 5, 6, 7);
    }

    @Says(promise = 0, words = "a HAND made (SOURCES, BUILDS)")
    static void triesReviewsAndSealsAreNotMade(Check check) {
        SealLine x = Lines.readyToSeal(1);
        x.tries(5, 0, true);
        x.review(5, 0, true);
        x.seal(5, 6, 0);
        check.due("a hand that made nothing", x.recall(2, 5, 0), 0);
        check.due("the other of a seal", x.recall(2, 6, 0), 0);
        check.due("a tool of no build", x.recall(1, 0, 0), 0);
        check.due("the seal stands", x.count(6), 1);
        check.due("the hand that made it", x.recall(2, 0, 0), 1);
        check.due("the seal does not stand", x.count(6), 0);
    }

    @Says(promise = 0, words = "what a TOOL built")
    static void aToolAndAHandOfOneNumber(Check check) {
        SealLine x = Lines.withOneFile();
        Lines.buildOf(x, 1, 2, 0);
        Lines.buildAs(x, 2, 1, 0, 55L);
        check.due("tool 2, not hand 2", x.recall(1, 2, 0), 1);
        check.due("it", x.called(0), 1);
        SealLine y = Lines.withOneFile();
        Lines.buildOf(y, 1, 2, 0);
        Lines.buildAs(y, 2, 1, 0, 55L);
        check.due("hand 2, not tool 2", y.recall(2, 2, 0), 1);
        check.due("it does not meet, and is called back", y.called(0), 2);
        SealLine z = Lines.withOneFile();
        Lines.buildOf(z, 1, 0, 0);
        check.due("tool 0", z.recall(1, 0, 0), 1);
        check.due("hand 0", z.recall(2, 0, 0), 2);
        SealLine last = Lines.withOneFile();
        Lines.buildOf(last, 11, 5, 0);
        check.due("tool 5", last.recall(1, 5, 1), 1);
        check.due("hand 11", last.recall(2, 11, 1), 1);
    }

    @Says(promise = 0, words = "a FILE is CALLED BACK if one of its ROW is called back itself, or has such a NOTE")
    static void allThatHangsOnIt(Check check) {
        SealLine x = Lines.withTwoFiles();
        Lines.buildOf(x, 2, 0, 1);
        x.source(3, 30L);
        x.build(4, 0, 3, 3, 2, 40L);
        check.due("the middle", x.recall(0, 1, 0), 3);
        dueCalled(check, x, 1, 2, 4);
        check.due("what went in is not", x.file(0, 1), 0);
        x.source(5, 50L);
        Lines.buildAs(x, 6, 0, 5, 60L);
        check.due("not yet", x.file(6, 1), 0);
        Lines.buildAs(x, 6, 0, 4, 50L);
        check.due("by a build that came later", x.file(6, 1), 1);
        x.source(7, x.hash(1));
        check.due("another source does not help", x.file(1, 1), 1);
        dueCalled(check, x, 1, 2, 4, 5, 6);
    }

    @Says(promise = 0, words = "or has such a NOTE")
    static void oneNoteOfSeveralIsEnough(Check check) {
        SealLine x = Lines.withTwoFiles();
        x.source(5, 10L);
        x.source(0, 10L);
        check.due("since the note behind it", x.recall(2, 5, 3), 0);
        check.due("since that note", x.recall(2, 5, 2), 2);
        dueCalled(check, x, 0, 1);
    }

    @Says(promise = 0, words = "(Notes behind the call, too.)")
    static void notesBehindTheCall(Check check) {
        SealLine x = Lines.withTwoFiles();
        x.recall(2, 5, 0);
        x.recall(1, 4, 0);
        x.recall(2, 6, 4);
        x.recall(1, 3, 400);
        x.recall(2, 7, 400);
        check.due("none yet", x.count(7), 0);
        x.source(5, 20L);
        check.due("a source of the hand", x.file(2, 1), 1);
        x.source(6, 30L);
        check.due("ahead of its tick", x.file(3, 1), 0);
        x.source(6, 40L);
        check.due("on its tick", x.file(4, 1), 1);
        x.source(6, 45L);
        check.due("behind its tick", x.file(5, 1), 1);
        Lines.buildAs(x, 0, 4, 0, 50L);
        check.due("a build with the tool", x.file(6, 1), 1);
        Lines.buildAs(x, 0, 3, 0, 60L);
        check.due("with a tool since 400", x.file(7, 1), 0);
        Lines.buildAs(x, 7, 0, 0, 70L);
        check.due("by a hand since 400", x.file(8, 1), 0);
        Lines.buildOf(x, 5, 2, 0);
        dueCalled(check, x, 1, 2, 4, 5, 6);
    }

    @Says(promise = 0, words = "in NOTES on a TICK told or behind")
    static void aLaterTickTakesNoEarlierOneBack(Check check) {
        SealLine x = Lines.withTwoFiles();
        x.recall(2, 5, 2);
        x.recall(2, 5, 300);
        x.recall(1, 4, 300);
        x.recall(1, 4, 3);
        x.recall(1, 4, 400);
        x.source(5, 20L);
        check.due("a hand since its earlier tick", x.file(2, 1), 1);
        Lines.buildAs(x, 0, 4, 0, 30L);
        check.due("a tool since its earlier tick", x.file(3, 1), 1);
        dueCalled(check, x, 2, 3);
    }

    @Says(promise = 0, words = "(Notes behind the call, too.)")
    static void theLastNoteBehindTheCall(Check check) {
        SealLine x = Lines.withOneFile();
        x.recall(2, 3, 399);
        x.recall(1, 2, 400);
        Lines.fillNotes(x, 398);
        Lines.buildAs(x, 3, 2, 0, 20L);
        check.due("note 398", x.count(7), 0);
        Lines.buildAs(x, 3, 2, 0, 30L);
        check.due("note 399", x.count(7), 1);
        check.due("it", x.called(0), 2);
        check.due("since 400 there is nothing", x.recall(1, 2, 400), 1);
        SealLine y = Lines.withOneFile();
        y.recall(2, 4, 399);
        y.recall(1, 3, 399);
        Lines.fillNotes(y, 399);
        Lines.buildAs(y, 3, 4, 0, 20L);
        check.due("note 399 of another hand and tool", y.count(7), 0);
    }

    @Says(promise = 0, words = "it is not CALLED BACK: a NOTE, a SEAL")
    static void noSealOfOneCalledBack(Check check) {
        SealLine x = Lines.withTwoFiles();
        x.ask(1);
        x.ask(0);
        x.uses(0, 5);
        x.recall(1, 2, 1);
        check.due("called back", x.why(10, 11, 0), 7);
        check.due("no seal", x.seal(10, 11, 0), NONE);
        check.due("it stays in the queue", x.count(8), 1);
        x.skip();
        check.due("what went in is not", x.seal(10, 11, 0), 0);
        x.recall(0, 0, 0);
        check.due("its seal does not stand", x.sealed(0, 6), 0);
    }

    /** Free as they are, they may not throw. */
    @Says(promise = 0, words = "An object is used for at most 512 calls after it has been made; "
        + "what later calls answer is free.")
    static void laterCallsDoNotThrow(Check check) {
        Random random = new Random(512);
        SealLine x = new SealLine();
        Lines.fillFiles(x);
        int calls = 0;
        while (calls < 20000) {
            callAny(x, random);
            calls++;
        }
        check.due("calls that came back", calls, 20000);
    }

    private static void callAny(SealLine x, Random random) {
        int[] odd = {-2, -1, 0, 1, 2, 3, 4, 5, 6, 8, 9, 10, 11, 12, 19, 63, 64, 99, 100, 399, 400, 401, 1000,
            't' << 24 | '=' << 16 | '1' << 8 | '|', Lines.FAR, Lines.FAR_BELOW};
        int[] n = new int[5];
        for (int i = 0; i < n.length; i++) {
            n[i] = random.nextInt(3) == 0 ? odd[random.nextInt(odd.length)] : random.nextInt(12);
        }
        switch (random.nextInt(28)) {
            case 0 -> x.source(n[0], n[1]);
            case 1 -> x.build(n[0], n[1], n[2], n[3], n[4], x.mix(n[1], n[2], n[3], n[4]));
            case 2 -> x.tries(n[0], n[1], true);
            case 3 -> x.review(n[0], n[1], true);
            case 4 -> x.feed(n[0]);
            case 5 -> x.end(n[0]);
            case 6 -> x.fault();
            case 7 -> x.rule();
            case 8 -> x.ask(n[0]);
            case 9 -> x.skip();
            case 10 -> x.seal(n[0], n[1], n[2]);
            case 11 -> x.why(n[0], n[1], n[2]);
            case 12 -> x.uses(n[0], n[1]);
            case 13 -> x.finish(random.nextInt(50) == 0 ? n[0] : NONE);
            case 14 -> x.lose(random.nextInt(50) == 0 ? n[0] : NONE, n[1]);
            case 15 -> x.recall(n[0], n[1], n[2]);
            case 16 -> x.file(n[0], n[1]);
            case 17 -> x.hash(n[0]);
            case 18 -> x.find(n[0]);
            case 19 -> x.sealed(n[0], n[1]);
            case 20 -> x.note(n[0], n[1]);
            case 21 -> x.least();
            case 22 -> x.makers();
            case 23 -> x.proof(n[0], n[1]);
            case 24 -> x.called(n[0]);
            case 25 -> x.count(n[0]);
            case 26 -> x.key(n[0], n[1]);
            default -> x.build(n[0], n[1], n[2], n[3], n[4], n[0]);
        }
    }

    @Says(promise = 1, words = "All as told; nothing.")
    static void aNewObject(Check check) {
        SealLine x = new SealLine();
        for (int what = 0; what < 8; what++) {
            check.due("count(" + what + ")", x.count(what), 0);
        }
        check.due("no first of the queue", x.count(8), NONE);
        for (int key = 0; key < 4; key++) {
            int[] want = {0, 0, NONE, 0};
            for (int what = 0; what < 4; what++) {
                check.due("key(" + key + ", " + what + ")", x.key(key, what), want[what]);
            }
        }
        check.due("file()", x.file(0, 0), NONE);
        check.due("note()", x.note(0, 0), NONE);
        check.due("sealed()", x.sealed(0, 0), NONE);
        check.due("hash()", x.hash(0), 0L);
        check.due("find()", x.find(0L), NONE);
        check.due("proof()", x.proof(0, 0), NONE);
        check.due("called()", x.called(0), NONE);
        check.due("skip()", x.skip(), NONE);
        check.due("ask()", x.ask(0), NONE);
        check.due("rule()", x.rule(), NONE);
        check.due("fault()", x.fault(), 0);
        check.due("why()", x.why(0, 1, 0), 1);
        check.due("seal()", x.seal(0, 1, 0), NONE);
        check.due("mix()", x.mix(0, 0, NONE, NONE), 0L);
    }

    @Says(promise = 1, words = "All as told; nothing.")
    static void objectsShareNothing(Check check) {
        SealLine x = Lines.readyToSeal(5);
        SealLine y = new SealLine();
        Lines.giveRule(x, "t=0");
        Lines.feedText(x, "t");
        x.recall(2, 0, 400);
        x.seal(10, 11, 0);
        x.finish(0);
        for (int what = 0; what < 8; what++) {
            check.due("count(" + what + ") of the other", y.count(what), 0);
        }
        check.due("its own file", y.source(3, 99L), 0);
        check.due("its own hash", x.hash(0), 10L);
        check.due("its own keys", y.uses(0, 1), 1);
        check.due("one made later", new SealLine().count(0), 0);
    }

    @Says(promise = 18, words = "NONE: no such sort, whose, TICK")
    static void recallOfNoSort(Check check) {
        SealLine x = withEightFiles();
        for (int sort : Lines.outside(3)) {
            check.due("sort " + sort, x.recall(sort, 0, 0), NONE);
            check.due("sort " + sort, x.recall(sort, 2, 0), NONE);
        }
        check.due("none came of it", x.count(7), 0);
        check.due("the last sort", x.recall(2, 2, 0), 4);
    }

    @Says(promise = 18, words = "NONE: no such sort, whose, TICK")
    static void recallOfNoOne(Check check) {
        SealLine x = withEightFiles();
        for (int file : Lines.outside(8)) {
            check.due("file " + file, x.recall(0, file, 0), NONE);
        }
        for (int tool : Lines.outside(6)) {
            check.due("tool " + tool, x.recall(1, tool, 0), NONE);
        }
        for (int hand : Lines.outside(12)) {
            check.due("hand " + hand, x.recall(2, hand, 0), NONE);
        }
        check.due("none came of it", x.count(7), 0);
        x.source(0, 1L);
        check.due("a file that was none then", x.count(7), 0);
        check.due("the last file", x.recall(0, 8, 0), 1);
        check.due("the last tool", x.recall(1, 5, 0), 1);
        check.due("the last hand", x.recall(2, 11, 0), 1);
        check.due("of a new object", new SealLine().recall(0, 0, 0), NONE);
    }

    @Says(promise = 18, words = "1 a TOOL, 2 a HAND, since a TICK (0 .. 400)")
    static void ticksOfRecall(Check check) {
        SealLine x = withEightFiles();
        for (int since : Lines.outside(401)) {
            check.due("tool since " + since, x.recall(1, 3, since), NONE);
            check.due("hand since " + since, x.recall(2, 1, since), NONE);
        }
        check.due("none came of it", x.count(7), 0);
        check.due("tool since 400", x.recall(1, 3, 400), 0);
        check.due("hand since 400", x.recall(2, 1, 400), 0);
        check.due("tool since what is to come", x.recall(1, 3, 8), 0);
        check.due("tool since the last note", x.recall(1, 3, 7), 1);
        check.due("tool since the first", x.recall(1, 3, 0), 4);
        check.due("hand since the first", x.recall(2, 1, 0), 8);
    }

    @Says(promise = 18, words = "sort 0 a FILE (since is not asked)")
    static void sinceIsNotAskedOfAFile(Check check) {
        int[] since = {0, 400, 401, -1, 1000, Lines.FAR, Lines.FAR_BELOW};
        for (int tick : since) {
            SealLine x = withEightFiles();
            check.due("a file since " + tick, x.recall(0, 4, tick), 2);
            dueCalled(check, x, 4, 5);
        }
    }

    @Says(promise = 18, words = "how many FILES are CALLED BACK then in all")
    static void howManyInAll(Check check) {
        SealLine x = withEightFiles();
        check.due("one", x.recall(0, 7, 0), 1);
        check.due("the same again", x.recall(0, 7, 0), 1);
        check.due("what it is built of", x.recall(0, 6, 0), 2);
        check.due("others beside these", x.recall(1, 3, 3), 4);
        check.due("a hand of no file", x.recall(2, 9, 0), 4);
        check.due("all", x.recall(2, 1, 0), 8);
        SealLine full = new SealLine();
        Lines.fillFiles(full);
        check.due("one of a hundred", full.recall(0, 99, 0), 1);
        for (int hand = 0; hand < 12; hand++) {
            full.recall(2, hand, 0);
        }
        check.due("a hundred", full.recall(0, 0, 0), 100);
        check.due("the last", full.called(99), 99);
        check.due("no more", full.called(100), NONE);
    }

    @Says(promise = 18, words = "50 were.")
    static void fiftyWere(Check check) {
        for (int sort = 0; sort < 3; sort++) {
            SealLine x = withEightFiles();
            for (int i = 0; i < 49; i++) {
                x.recall(i % 3, 5, 400);
                x.recall(3, 0, 0);
                x.recall(0, 8, 0);
                x.recall(1, 6, 0);
                x.recall(2, 0, 401);
            }
            check.due("but 49, file 5", x.count(7), 1);
            check.due("the fiftieth", x.recall(sort, 3, 0), sort == 0 ? 2 : sort == 1 ? 4 : 1);
            int before = x.count(7);
            check.due("one more file", x.recall(0, 0, 0), NONE);
            check.due("one more tool", x.recall(1, 3, 0), NONE);
            check.due("one more hand", x.recall(2, 1, 0), NONE);
            check.due("one that was", x.recall(0, 5, 0), NONE);
            check.due("none came of it", x.count(7), before);
            x.source(1, 500L);
            check.due("nor behind it", x.file(8, 1), 0);
        }
    }

    @Says(promise = 27, words = "The i-th FILE (rising) that is CALLED BACK. NONE without.")
    static void calledRising(Check check) {
        SealLine x = new SealLine();
        Lines.fillFiles(x);
        check.due("none", x.called(0), NONE);
        for (int file : new int[] {99, 64, 0, 63, 65}) {
            x.recall(0, file, 0);
        }
        dueCalled(check, x, 0, 63, 64, 65, 99);
        for (int i : Lines.outside(5)) {
            check.due("called(" + i + ")", x.called(i), NONE);
        }
    }

    @Says(promise = 28, words = "8 the first of the QUEUE (NONE). NONE for others.")
    static void countForOthers(Check check) {
        SealLine x = Lines.withTwoFiles();
        for (int what : Lines.outside(9)) {
            check.due("count(" + what + ")", x.count(what), NONE);
        }
        check.due("no first", x.count(8), NONE);
        x.ask(0);
        check.due("file 0", x.count(8), 0);
        x.ask(1);
        x.skip();
        check.due("the next", x.count(8), 1);
        x.skip();
        check.due("none again", x.count(8), NONE);
    }

    @Says(promise = 28, words = "6 SEALS that STAND, 7 FILES CALLED BACK")
    static void countsOfWhatStandsAndWhatIsCalledBack(Check check) {
        SealLine x = Lines.withTwoFiles();
        for (int i = 0; i < 3; i++) {
            x.ask(i % 2);
            Lines.sealFirst(x, i);
        }
        int[][] want = {{3, 0}, {2, 0}, {1, 1}, {0, 2}};
        for (int step = 0; step < want.length; step++) {
            if (step == 1) {
                x.lose(2, 0);
            } else if (step > 1) {
                x.recall(0, 3 - step, 0);
            }
            check.due("seals that stand, step " + step, x.count(6), want[step][0]);
            check.due("files called back, step " + step, x.count(7), want[step][1]);
        }
        check.due("seals in all", x.count(3), 3);
        check.due("files in all", x.count(1), 2);
    }

    @Says(promise = 28, words = "0 NOTES, 1 FILES, 2 RULES, 3 SEALS, 4 how long the QUEUE is, 5 bytes of the TAPE")
    static void countsWhenAllIsFull(Check check) {
        SealLine x = new SealLine();
        Lines.fillFiles(x);
        Lines.fillNotes(x, 300);
        x.source(0, 1L);
        x.tries(0, 0, true);
        check.due("notes", x.count(0), 301);
        check.due("files", x.count(1), 100);
        for (int file = 0; file < 100; file++) {
            x.ask(file);
        }
        x.ask(0);
        check.due("the queue", x.count(4), 100);
        Lines.feedText(x, " ".repeat(100));
        x.feed(' ');
        check.due("the tape", x.count(5), 100);
        x.rule();
        check.due("rules", x.count(2), 0);
        check.due("seals", x.count(3), 0);
    }
}
