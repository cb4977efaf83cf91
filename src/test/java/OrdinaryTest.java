import java.io.IOException;

/** What the document says in the ordinary case, where the tests of edges do not say it: a test for each sentence. */
public final class OrdinaryTest {
    private static final int NONE = Lines.NONE;

    private OrdinaryTest() {
    }

    public static void main(String[] args) throws IOException, ReflectiveOperationException {
        Sentences.run(OrdinaryTest.class);
    }

    private static void dueTold(Check check, String call, int[] got, int... want) {
        check.due(call + ", how many", got.length, want.length);
        for (int what = 0; what < Math.min(got.length, want.length); what++) {
            check.due(call + ", " + what, got[what], want[what]);
        }
    }

    private static int[] noteOf(SealLine x, int note) {
        int[] told = new int[8];
        for (int what = 0; what < told.length; what++) {
            told[what] = x.note(note, what);
        }
        return told;
    }

    private static int[] sealOf(SealLine x, int seal) {
        int[] told = new int[7];
        for (int what = 0; what < told.length; what++) {
            told[what] = x.sealed(seal, what);
        }
        return told;
    }

    private static int[] fileOf(SealLine x, int file) {
        int[] told = new int[9];
        for (int what = 0; what < told.length; what++) {
            told[what] = x.file(file, what);
        }
        return told;
    }

    private static int[] keyOf(SealLine x, int key) {
        int[] told = new int[4];
        for (int what = 0; what < told.length; what++) {
            told[what] = x.key(key, what);
        }
        return told;
    }

    @Says(promise = 0, words = "A line from desk to seal: texts kept, files built of files with notes of what went in, "
        + "tries and reviews, a queue from which nothing skips, seals by two hands who did not make what they seal, "
        + "by keys that count, numbers without a gap; rules as texts, each seal by the one of its time; keys ended or "
        + "lost, tools, hands and files called back with all that hangs on them; how many bad hands it takes to get "
        + "something sealed; and the least notes that prove a file.")
    static void fromDeskToSeal(Check check) {
        SealLine x = new SealLine();
        check.due("a text", x.source(0, 100L), 0);
        check.due("another text", x.source(1, 200L), 1);
        check.due("a file built of them", x.build(2, 3, 0, 1, NONE, x.mix(3, 0, 1, NONE)), 2);
        check.due("a try", x.tries(3, 2, true), 3);
        check.due("a review", x.review(4, 2, true), 4);
        check.due("a rule", Lines.giveRule(x, "t=1&r=1"), 0);
        check.due("how many bad hands", x.least(), 3);
        check.due("asked for", x.ask(2), 0);
        check.due("another asked for", x.ask(0), 1);
        x.uses(0, 5);
        check.due("by one who made it", x.seal(2, 5, 0), NONE);
        check.due("by two who did not", x.seal(5, 6, 0), 0);
        check.due("the rule does not hold of the next", x.seal(5, 6, 0), NONE);
        check.due("a rule of another time", Lines.giveRule(x, "t=0"), 1);
        check.due("no number was left out", x.seal(6, 1, 0), 1);
        check.due("the key counts", x.key(0, 0), 3);
        check.due("the first by the first rule", x.sealed(0, 5), 0);
        check.due("the next by the next", x.sealed(1, 5), 1);
        check.due("the key is lost since the last seal", x.lose(0, x.sealed(1, 2)), 1);
        check.due("one seal stands", x.count(6), 1);
        for (int i = 0; i < 3; i++) {
            check.due("what proves the file", x.proof(2, i), i);
        }
        check.due("a hand is called back, and what hangs on it", x.recall(2, 1, 0), 2);
        check.due("no seal stands", x.count(6), 0);
    }

    @Says(promise = 0, words = "The constants: `NONE = -1`: None; refused.")
    static void noneIsMinusOne(Check check) {
        check.due("NONE", SealLine.NONE, -1);
        SealLine x = new SealLine();
        int[] refused = {x.source(12, 1L), x.build(0, 0, 0, -1, -1, 1L), x.tries(0, 0, true), x.review(0, 0, true),
            x.rule(), x.ask(0), x.skip(), x.seal(0, 1, 0), x.uses(4, 1), x.lose(4, 0), x.recall(3, 0, 0)};
        for (int answer : refused) {
            check.due("what is refused", answer, -1);
        }
        int[] none = {x.file(0, 0), x.find(1L), x.sealed(0, 0), x.note(0, 0), x.proof(0, 0), x.called(0), x.count(8),
            x.key(0, 2)};
        for (int answer : none) {
            check.due("what is not there", answer, -1);
        }
    }

    @Says(promise = 0, words = "SOURCE: a HAND keeps a text, told by its HASH (a new FILE, or one that is there: "
        + "another NOTE of it).")
    static void aTextIsKept(Check check) {
        SealLine x = new SealLine();
        check.due("a new file", x.source(7, -8L), 0);
        check.due("another new file", x.source(7, 9L), 1);
        check.due("one that is there", x.source(3, -8L), 0);
        dueTold(check, "the note", noteOf(x, 0), 0, 0, 7, NONE, NONE, NONE, NONE, NONE);
        dueTold(check, "another note of it", noteOf(x, 2), 0, 0, 3, NONE, NONE, NONE, NONE, NONE);
        check.due("its hash", x.hash(0), -8L);
        check.due("two files", x.count(1), 2);
        check.due("three notes", x.count(0), 3);
    }

    @Says(promise = 0, words = "BUILD: a HAND, a TOOL, one to three FILES that are there, and the HASH of what came "
        + "out (a new FILE, or one that is there and is in the ROW of none of those that went in).")
    static void aFileIsBuilt(Check check) {
        SealLine x = Lines.withOneFile();
        x.source(1, 20L);
        long mix = x.mix(4, 1, 0, 1);
        check.due("a new file", x.build(8, 4, 1, 0, 1, mix), 2);
        check.due("one that is there", x.build(9, 5, 1, NONE, NONE, mix), 2);
        check.due("a text that is there", x.build(9, 5, 1, NONE, NONE, 10L), 0);
        check.due("one of the row", x.build(9, 5, 2, NONE, NONE, 20L), NONE);
        dueTold(check, "the note", noteOf(x, 2), 1, 2, 8, 4, 1, 0, 1, 1);
        dueTold(check, "another note of it", noteOf(x, 3), 1, 2, 9, 5, 1, NONE, NONE, 0);
        dueTold(check, "a note of the text", noteOf(x, 4), 1, 0, 9, 5, 1, NONE, NONE, 0);
        check.due("its hash", x.hash(2), mix);
        check.due("three files", x.count(1), 3);
    }

    @Says(promise = 0, words = "SEALING: the first of the QUEUE, by two unlike HANDS who are no MAKERS of it, with a "
        + "KEY that has uses left, is not ended nor lost: if it is CLEAN and the RULE in force holds of it and it is "
        + "not CALLED BACK: a NOTE, a SEAL with the next number (0, 1, ..); the KEY has one use less; it leaves the "
        + "QUEUE.")
    static void sealing(Check check) {
        SealLine x = withFirstClean();
        check.due("it is done", x.seal(10, 11, 0), 0);
        dueTold(check, "a note", noteOf(x, 3), 4, 1, 10, NONE, NONE, NONE, NONE, NONE);
        dueTold(check, "a seal", sealOf(x, 0), 1, 0, 3, 10, 11, 0, 1);
        check.due("one use less", x.key(0, 0), 4);
        check.due("it left the queue", x.file(1, 7), NONE);
        check.due("the next is first", x.count(8), 0);
        check.due("the next number", x.seal(10, 11, 0), 1);
    }

    @Says(promise = 0, words = "by two unlike HANDS who are no MAKERS of it, with a KEY that has uses left, is not "
        + "ended nor lost: if it is CLEAN and the RULE in force holds of it and it is not CALLED BACK")
    static void noSealing(Check check) {
        dueNoSeal(check, "alike", withFirstClean(), 10, 10, 0);
        dueNoSeal(check, "a maker", withFirstClean(), 10, 1, 0);
        dueNoSeal(check, "a maker of what went in", withFirstClean(), 0, 11, 0);
        dueNoSeal(check, "no uses", withFirstClean(), 10, 11, 1);
        SealLine ended = withFirstClean();
        ended.finish(0);
        dueNoSeal(check, "ended", ended, 10, 11, 0);
        SealLine lost = withFirstClean();
        lost.lose(0, 3);
        dueNoSeal(check, "lost", lost, 10, 11, 0);
        dueNoSeal(check, "not clean", withFirstNotClean(), 10, 11, 0);
        SealLine ruled = withFirstClean();
        ruled.tries(5, 1, true);
        dueNoSeal(check, "the rule", ruled, 10, 11, 0);
        SealLine called = withFirstClean();
        called.recall(0, 1, 0);
        dueNoSeal(check, "called back", called, 10, 11, 0);
    }

    /** FILE 0 of HAND 0, FILE 1 built of it by HAND 1 and asked for ahead of it; RULE 0 is t=0, KEY 0 has 5 uses. */
    private static SealLine withFirstNotClean() {
        SealLine x = Lines.withOneFile();
        Lines.buildAs(x, 1, 2, 0, 55L);
        x.ask(1);
        x.ask(0);
        x.uses(0, 5);
        Lines.giveRule(x, "t=0");
        return x;
    }

    private static SealLine withFirstClean() {
        SealLine x = withFirstNotClean();
        x.source(0, 55L);
        return x;
    }

    private static void dueNoSeal(Check check, String cause, SealLine x, int one, int other, int key) {
        int notes = x.count(0);
        check.due(cause, x.seal(one, other, key), NONE);
        check.due(cause + ": no note", x.count(0), notes);
        check.due(cause + ": no seal", x.count(3), 0);
        check.due(cause + ": no use", x.key(0, 0), 5);
        check.due(cause + ": it stays the first", x.count(8), 1);
    }

    @Says(promise = 0, words = "CALLED BACK: a FILE; what a TOOL built, or a HAND made (SOURCES, BUILDS), in NOTES on "
        + "a TICK told or behind: a FILE is CALLED BACK if one of its ROW is called back itself, or has such a NOTE.")
    static void calledBackByEachSort(Check check) {
        int[][] calls = {{0, 0, 0}, {0, 1, 0}, {0, 2, 0}, {1, 2, 1}, {1, 2, 2}, {2, 0, 0}, {2, 1, 1}, {2, 5, 2}};
        String[] wanted = {"110", "010", "001", "010", "000", "110", "010", "001"};
        for (int i = 0; i < calls.length; i++) {
            SealLine x = Lines.withTwoFiles();
            x.source(5, 30L);
            x.recall(calls[i][0], calls[i][1], calls[i][2]);
            for (int file = 0; file < 3; file++) {
                check.due("call " + i + ", file " + file, x.file(file, 1), wanted[i].charAt(file) - '0');
            }
        }
    }

    /** What is judged is tried: some bad HANDS of that number get a FILE sealed, and no fewer do. */
    @Says(promise = 0, words = "JUDGING: n bad HANDS (of twelve; all others do nothing) can get something sealed by "
        + "the RULE in force if there are x MAKERS among them (1 .. n), n - x being 2 or more, t from 0 to n, r from 0 "
        + "to n - x, b from 0 to x, by which it holds. Told are the least such n, and for it the least x.")
    static void whatIsJudgedIsSo(Check check) {
        for (String rule : new String[] {"t=0", "t>4", "r>2", "b>2", "b=2&r=3", "t=5|b=3", "t=6|b=3", "b>1&t<1",
            "(r=4|b=2)&(t=3|b=1)", "r=0&b=0&t=0", "t>5&r>3", "t=1&t=2"}) {
            SealLine judged = Lines.withRule(rule);
            int least = fewest(rule);
            check.due("least() of " + rule, judged.least(), least == NONE ? NONE : least / 100);
            check.due("makers() of " + rule, judged.makers(), least == NONE ? NONE : least % 100);
        }
    }

    /** 100 n + x; no RULE here asks for more than 7 HANDS. */
    private static int fewest(String rule) {
        for (int n = 1; n <= 7; n++) {
            for (int x = 1; x <= n - 2; x++) {
                for (int i = 0; i < (n + 1) * (n - x + 1) * (x + 1); i++) {
                    if (badHandsSeal(rule, n, x, i)) {
                        return 100 * n + x;
                    }
                }
            }
        }
        return NONE;
    }

    /** HANDS 0 to x - 1 make FILE 1, the last two of n seal it; i tells t, r and b. */
    private static boolean badHandsSeal(String rule, int n, int x, int i) {
        SealLine line = Lines.withOneFile();
        long hash = line.mix(0, 0, NONE, NONE);
        for (int maker = 0; maker < x; maker++) {
            line.source(maker, hash);
        }
        for (int b = 0; b < i / (n + 1) / (n - x + 1); b++) {
            Lines.buildAs(line, b, 0, 0, hash);
        }
        for (int t = 0; t < i % (n + 1); t++) {
            line.tries(t, 1, true);
        }
        for (int r = 0; r < i / (n + 1) % (n - x + 1); r++) {
            line.review(x + r, 1, true);
        }
        Lines.giveRule(line, rule);
        line.uses(0, 1);
        line.ask(1);
        return line.seal(n - 2, n - 1, 0) == 0;
    }

    @Says(promise = 0, words = "PROOF of a FILE that is CLEAN: of each FILE: the first of its SOURCES and BUILDS that "
        + "MEET of CLEAN FILES alone; the PROOF are these NOTES of the FILE, and of what went into the BUILDS among "
        + "them, on and on.")
    static void whatProvesAFile(Check check) {
        SealLine x = Lines.withTwoFiles();
        x.source(2, 30L);
        x.source(3, 30L);
        int top = x.build(4, 5, 1, 2, NONE, x.mix(5, 1, 2, NONE));
        x.source(5, 40L);
        x.source(6, x.hash(top));
        int[] want = {0, 1, 2, 4, NONE};
        for (int i = 0; i < want.length; i++) {
            check.due("note " + i, x.proof(top, i), want[i]);
        }
    }

    @Says(promise = 2, words = "A SOURCE: its FILE.")
    static void sourceTellsItsFile(Check check) {
        SealLine x = new SealLine();
        check.due("the first", x.source(2, 70L), 0);
        check.due("the next", x.source(2, 71L), 1);
        check.due("the first again", x.source(4, 70L), 0);
        check.due("the next again", x.source(4, 71L), 1);
        check.due("find() agrees", x.find(71L), 1);
        dueTold(check, "file 1", fileOf(x, 1), 1, 0, 0, 0, 0, 1, 1 << 2 | 1 << 4, NONE, 0);
    }

    @Says(promise = 5, words = "A TRY: the NOTE.")
    static void triesTellsTheNote(Check check) {
        SealLine x = Lines.withTwoFiles();
        check.due("a good one", x.tries(6, 1, true), 2);
        check.due("one that is not", x.tries(7, 0, false), 3);
        dueTold(check, "the good one", noteOf(x, 2), 2, 1, 6, NONE, NONE, NONE, NONE, 1);
        dueTold(check, "the other", noteOf(x, 3), 2, 0, 7, NONE, NONE, NONE, NONE, 0);
        check.due("t", x.file(1, 2), 1);
        check.due("t of the other", x.file(0, 2), 0);
    }

    @Says(promise = 6, words = "A REVIEW: the NOTE.")
    static void reviewTellsTheNote(Check check) {
        SealLine x = Lines.withTwoFiles();
        check.due("a good one", x.review(6, 1, true), 2);
        check.due("one that is not", x.review(7, 0, false), 3);
        dueTold(check, "the good one", noteOf(x, 2), 3, 1, 6, NONE, NONE, NONE, NONE, 1);
        dueTold(check, "the other", noteOf(x, 3), 3, 0, 7, NONE, NONE, NONE, NONE, 0);
        check.due("r", x.file(1, 3), 1);
        check.due("r of the other", x.file(0, 3), 0);
    }

    @Says(promise = 12, words = "The first of the QUEUE leaves it, unsealed.")
    static void skipLeavesItUnsealed(Check check) {
        SealLine x = Lines.withTwoFiles();
        x.ask(1);
        x.ask(0);
        check.due("skip()", x.skip(), 1);
        check.due("it left", x.file(1, 7), NONE);
        check.due("unsealed", x.file(1, 8) + x.count(3), 0);
        check.due("the next is first", x.count(8), 0);
        check.due("one is left", x.count(4), 1);
    }

    @Says(promise = 18, words = "CALLED BACK: sort 0 a FILE (since is not asked), 1 a TOOL, 2 a HAND, since a TICK "
        + "(0 .. 400): how many FILES are CALLED BACK then in all.")
    static void recallTellsHowMany(Check check) {
        SealLine x = Lines.withTwoFiles();
        Lines.buildAs(x, 3, 4, 0, 50L);
        x.source(5, 60L);
        check.due("a tool", x.recall(1, 4, 2), 1);
        check.due("a hand", x.recall(2, 5, 0), 2);
        check.due("a file", x.recall(0, 0, -1), 4);
        check.due("count() agrees", x.count(7), 4);
    }

    @Says(promise = 19, words = "Of a FILE: 0 whether it is CLEAN, 1 CALLED BACK, 2 t, 3 r, 4 b, 5 how many FILES its "
        + "ROW has, 6 its MAKERS as bits, 7 its place in the QUEUE (NONE), 8 how many SEALS of it STAND.")
    static void whatIsToldOfAFile(Check check) {
        SealLine x = Lines.withTwoFiles();
        Lines.buildOf(x, 3, 2, 0);
        dueTold(check, "built", fileOf(x, 1), 1, 0, 0, 0, 2, 2, 0b1011, NONE, 0);
        for (int hand = 4; hand < 9; hand++) {
            x.tries(hand, 1, true);
            x.review(hand, 1, hand > 6);
        }
        x.ask(1);
        dueTold(check, "asked for", fileOf(x, 1), 1, 0, 5, 2, 2, 2, 0b1011, 0, 0);
        Lines.sealFirst(x, 0);
        dueTold(check, "sealed", fileOf(x, 1), 1, 0, 5, 2, 2, 2, 0b1011, NONE, 1);
        x.recall(0, 0, 0);
        dueTold(check, "called back", fileOf(x, 1), 1, 1, 5, 2, 2, 2, 0b1011, NONE, 0);
        Lines.buildAs(x, 4, 5, 1, 77L);
        dueTold(check, "not clean", fileOf(x, 2), 0, 1, 0, 0, 0, 3, 0b11011, NONE, 0);
    }

    @Says(promise = 22, words = "Of a SEAL: 0 FILE, 1 KEY, 2 its TICK, 3, 4 its HANDS as told, 5 the RULE (NONE: none "
        + "was), 6 whether it STANDS.")
    static void whatIsToldOfASeal(Check check) {
        SealLine x = Lines.withTwoFiles();
        x.ask(1);
        x.ask(0);
        x.uses(3, 1);
        x.uses(2, 1);
        x.seal(8, 4, 3);
        Lines.giveRule(x, "t<9");
        x.seal(5, 9, 2);
        dueTold(check, "the first", sealOf(x, 0), 1, 3, 2, 8, 4, NONE, 1);
        dueTold(check, "the next", sealOf(x, 1), 0, 2, 3, 5, 9, 0, 1);
        x.lose(2, 3);
        dueTold(check, "its key is lost", sealOf(x, 1), 0, 2, 3, 5, 9, 0, 0);
        dueTold(check, "the first's is not", sealOf(x, 0), 1, 3, 2, 8, 4, NONE, 1);
        x.recall(0, 1, 0);
        dueTold(check, "its file is called back", sealOf(x, 0), 1, 3, 2, 8, 4, NONE, 0);
    }

    @Says(promise = 23, words = "Of a NOTE: 0 sort (0 SOURCE, 1 BUILD, 2 TRY, 3 REVIEW, 4 SEAL), 1 FILE, 2 HAND (the "
        + "first of a SEAL), 3 TOOL, 4, 5, 6 what went in, 7 good, or MEETS (1, 0).")
    static void whatIsToldOfANote(Check check) {
        SealLine x = Lines.withTwoFiles();
        x.build(2, 5, 1, 0, 1, 77L);
        x.tries(3, 2, true);
        x.review(4, 1, false);
        x.ask(1);
        x.uses(0, 1);
        x.seal(9, 8, 0);
        dueTold(check, "a source", noteOf(x, 0), 0, 0, 0, NONE, NONE, NONE, NONE, NONE);
        dueTold(check, "a build that meets", noteOf(x, 1), 1, 1, 1, 2, 0, NONE, NONE, 1);
        dueTold(check, "a build that does not", noteOf(x, 2), 1, 2, 2, 5, 1, 0, 1, 0);
        dueTold(check, "a try that is good", noteOf(x, 3), 2, 2, 3, NONE, NONE, NONE, NONE, 1);
        dueTold(check, "a review that is not", noteOf(x, 4), 3, 1, 4, NONE, NONE, NONE, NONE, 0);
        dueTold(check, "a seal", noteOf(x, 5), 4, 1, 9, NONE, NONE, NONE, NONE, NONE);
    }

    @Says(promise = 24, words = "JUDGING: the least n.")
    static void leastOfEachRule(Check check) {
        SealLine x = new SealLine();
        check.due("without a rule", x.least(), 3);
        String[] rules = {"t>6", "r>6", "b>6", "r=0&b=0"};
        int[] want = {7, 8, 9, 3};
        for (int i = 0; i < rules.length; i++) {
            Lines.giveRule(x, rules[i]);
            check.due("least() of " + rules[i], x.least(), want[i]);
        }
    }

    @Says(promise = 26, words = "NOTE i of the PROOF of a FILE (rising).")
    static void proofRises(Check check) {
        SealLine x = new SealLine();
        x.source(0, 1L);
        long mix = x.mix(0, 0, NONE, NONE);
        Lines.buildAs(x, 0, 5, 0, mix);
        x.source(1, 2L);
        x.build(2, 1, 1, 2, NONE, x.mix(1, 1, 2, NONE));
        Lines.buildAs(x, 3, 0, 0, mix);
        int[] want = {0, 2, 3, 4, NONE};
        for (int i = 0; i < want.length; i++) {
            check.due("note " + i + " though file 1 was proved last", x.proof(3, i), want[i]);
        }
    }

    @Says(promise = 29, words = "Of a KEY: 0 uses left, 1 whether it is ENDED, 2 since when it is LOST (NONE), "
        + "3 its SEALS.")
    static void whatIsToldOfAKey(Check check) {
        SealLine x = Lines.readyToSeal(7);
        dueTold(check, "with uses", keyOf(x, 0), 7, 0, NONE, 0);
        x.seal(10, 11, 0);
        dueTold(check, "with a seal", keyOf(x, 0), 6, 0, NONE, 1);
        x.finish(0);
        dueTold(check, "ended", keyOf(x, 0), 6, 1, NONE, 1);
        x.lose(0, 1);
        dueTold(check, "lost", keyOf(x, 0), 6, 1, 1, 1);
        dueTold(check, "another", keyOf(x, 1), 0, 0, NONE, 0);
    }
}
