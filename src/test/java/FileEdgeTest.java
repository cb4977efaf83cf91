import java.io.IOException;

/** The edges of what the document says of NOTES and FILES: a test for each sentence. */
public final class FileEdgeTest {
    private static final int NONE = Lines.NONE;
    private static final long TIMES = 6364136223846793005L;
    private static final long AND = 1442695040888963407L;

    private FileEdgeTest() {
    }

    public static void main(String[] args) throws IOException, ReflectiveOperationException {
        Sentences.run(FileEdgeTest.class);
    }

    @Says(promise = 0, words = "HANDS 0 .. 11")
    static void everyHandMakesAndSays(Check check) {
        SealLine x = Lines.withOneFile();
        long hash = x.mix(0, 0, NONE, NONE);
        for (int hand = 0; hand <= 11; hand++) {
            check.due("source() by " + hand, x.source(hand, 10L), 0);
            check.due("build() by " + hand, Lines.buildAs(x, hand, 0, 0, hash), 1);
            check.due("tries() by " + hand, x.tries(hand, 0, true), 4 * hand + 3);
            check.due("review() by " + hand, x.review(hand, 1, true), 4 * hand + 4);
            check.due("its hand", x.note(4 * hand + 4, 2), hand);
            check.due("makers then", x.file(0, 6), (2 << hand) - 1);
        }
    }

    @Says(promise = 0, words = "TOOLS 0 .. 5")
    static void everyToolBuilds(Check check) {
        SealLine x = Lines.withOneFile();
        for (int tool = 0; tool <= 5; tool++) {
            long mix = (tool + 1L ^ 10L) * TIMES + AND;
            check.due("mix() with tool " + tool, x.mix(tool, 0, NONE, NONE), mix);
            check.due("build() with tool " + tool, Lines.buildAs(x, 1, tool, 0, mix), tool + 1);
            check.due("its tool", x.note(tool + 1, 3), tool);
            check.due("it meets", x.note(tool + 1, 7), 1);
        }
    }

    @Says(promise = 0, words = "TICKS: each NOTE (400 at most, numbered as they come) is told on a TICK of its own: "
        + "its number.")
    static void notesOfAllSortsAreNumberedAsTheyCome(Check check) {
        SealLine x = Lines.readyToSeal(9);
        check.due("a try", x.tries(1, 0, true), 1);
        x.tries(12, 0, true);
        check.due("a review behind a refused one", x.review(1, 0, true), 2);
        x.seal(0, 5, 0);
        x.seal(4, 5, 0);
        check.due("a seal behind a refused one", x.sealed(0, 2), 3);
        x.source(12, 20L);
        x.source(2, 20L);
        x.build(2, 6, 0, NONE, NONE, 30L);
        x.build(2, 5, 0, NONE, NONE, 30L);
        check.due("a try behind all these", x.tries(1, 0, true), 6);
        int[] sorts = {0, 2, 3, 4, 0, 1, 2, NONE};
        for (int note = 0; note < sorts.length; note++) {
            check.due("sort of note " + note, x.note(note, 0), sorts[note]);
        }
        check.due("how many", x.count(0), 7);
    }

    @Says(promise = 0, words = "FILES (100 at most, numbered as they come)")
    static void filesOfBothSortsAreNumberedAsTheyCome(Check check) {
        SealLine x = new SealLine();
        for (int file = 0; file < 100; file++) {
            x.source(12, 7000L + file);
            int got = file % 3 == 1 ? Lines.buildAs(x, 1, 2, file - 1, 7000L + file) : x.source(0, 7000L + file);
            check.due("a new file", got, file);
        }
        check.due("source() of one more", x.source(0, 7100L), NONE);
        check.due("build() of one more", Lines.buildAs(x, 0, 0, 0, 7100L), NONE);
        check.due("a hundred", x.count(1), 100);
        check.due("a hundred notes", x.count(0), 100);
    }

    @Says(promise = 0, words = "have a HASH (64 bits), no two the same")
    static void eachBitOfAHashTells(Check check) {
        SealLine x = new SealLine();
        check.due("the hash 0", x.source(0, 0L), 0);
        for (int bit = 0; bit < 64; bit++) {
            check.due("source() with bit " + bit, x.source(0, 1L << bit), bit + 1);
        }
        for (int bit = 0; bit < 64; bit++) {
            check.due("the same again", x.source(1, 1L << bit), bit + 1);
            check.due("hash()", x.hash(bit + 1), 1L << bit);
            check.due("find()", x.find(1L << bit), bit + 1);
        }
        check.due("no two the same", x.count(1), 65);
        check.due("all bits", x.source(0, -1L), 65);
        check.due("all bits but the first", x.source(0, Long.MAX_VALUE), 66);
    }

    @Says(promise = 0, words = "(a new FILE, or one that is there: another NOTE of it)")
    static void aSourceOfOneThatIsThere(Check check) {
        SealLine x = Lines.withTwoFiles();
        check.due("again by the same hand", x.source(0, 10L), 0);
        check.due("by another", x.source(5, 10L), 0);
        check.due("of what was built", x.source(6, x.hash(1)), 1);
        check.due("notes", x.count(0), 5);
        check.due("files", x.count(1), 2);
        for (int note = 2; note < 5; note++) {
            check.due("a source", x.note(note, 0), 0);
            check.due("its file", x.note(note, 1), note / 4);
        }
        check.due("makers", x.file(1, 6), 0b1100011);
    }

    @Says(promise = 0, words = "one to three FILES that are there")
    static void oneTwoAndThreeGoIn(Check check) {
        SealLine x = new SealLine();
        for (int file = 0; file < 3; file++) {
            x.source(0, 10L + file);
        }
        check.due("none", x.build(1, 0, NONE, NONE, NONE, 20L), NONE);
        check.due("one", x.build(1, 0, 2, NONE, NONE, 21L), 3);
        check.due("two", x.build(1, 0, 2, 1, NONE, 22L), 4);
        check.due("three", x.build(1, 0, 2, 1, 0, 23L), 5);
        for (int many = 1; many <= 3; many++) {
            check.due("row of " + many, x.file(2 + many, 5), many + 1);
            for (int i = 0; i < 3; i++) {
                check.due("what went in", x.note(2 + many, 4 + i), i < many ? 2 - i : NONE);
            }
        }
        check.due("the same one three times", x.build(1, 0, 0, 0, 0, x.mix(0, 0, 0, 0)), 6);
        check.due("its row", x.file(6, 5), 2);
        check.due("it meets", x.note(6, 7), 1);
    }

    @Says(promise = 0, words = "or one that is there and is in the ROW of none of those that went in")
    static void aBuildOfOneThatIsThere(Check check) {
        SealLine x = Lines.withTwoFiles();
        x.source(2, 20L);
        check.due("of a source", Lines.buildAs(x, 3, 0, 2, 10L), 0);
        check.due("the other way round", Lines.buildAs(x, 3, 0, 0, 20L), NONE);
        check.due("from further on", Lines.buildAs(x, 3, 0, 1, 20L), NONE);
        check.due("again, another note", Lines.buildAs(x, 4, 5, 2, 10L), 0);
        check.due("notes", x.count(0), 5);
        check.due("files", x.count(1), 3);
        check.due("rows grow", x.file(1, 5), 3);
    }

    @Says(promise = 0, words = "x is TOOL and 1 at first; for each FILE that went in, in order, x becomes "
        + "(x exclusive or its HASH) times 6364136223846793005 and 1442695040888963407 (64 bits, going round)")
    static void mixGoesRound(Check check) {
        SealLine x = new SealLine();
        long[] hashes = {0L, 1L, -1L, Long.MAX_VALUE, Long.MIN_VALUE};
        for (long hash : hashes) {
            x.source(0, hash);
        }
        for (int a = 0; a < 5; a++) {
            for (int b = 0; b < 5; b++) {
                long one = (6L ^ hashes[a]) * TIMES + AND;
                long two = (one ^ hashes[b]) * TIMES + AND;
                long three = (two ^ hashes[a]) * TIMES + AND;
                check.due("mix of one", x.mix(5, a, NONE, NONE), one);
                check.due("mix of two, in order", x.mix(5, a, b, NONE), two);
                check.due("mix of three, in order", x.mix(5, a, b, a), three);
            }
        }
        check.due("tool 0 with hash 1 goes in as 0", x.mix(0, 1, NONE, NONE), AND);
        check.due("a known one", x.mix(0, 0, NONE, NONE), 7806831264735756412L);
    }

    @Says(promise = 0, words = "It MEETS if the HASH is MIX")
    static void oneBitOffDoesNotMeet(Check check) {
        SealLine x = Lines.withOneFile();
        long mix = x.mix(3, 0, NONE, NONE);
        for (int bit = 0; bit < 64; bit++) {
            Lines.buildAs(x, 1, 3, 0, mix ^ 1L << bit);
            check.due("off by bit " + bit, x.note(bit + 1, 7), 0);
            check.due("b", x.file(bit + 1, 4), 0);
            check.due("clean", x.file(bit + 1, 0), 0);
        }
        Lines.buildAs(x, 1, 3, 0, mix);
        check.due("as mixed", x.note(65, 7), 1);
        check.due("clean then", x.file(65, 0), 1);
        Lines.buildAs(x, 1, 2, 0, mix);
        check.due("of another tool", x.note(66, 7), 0);
        x.build(1, 3, 0, 0, NONE, mix);
        check.due("of more than that", x.note(67, 7), 0);
    }

    @Says(promise = 0, words = "It MEETS if the HASH is MIX")
    static void aMixOfZeroMeetsToo(Check check) {
        SealLine x = new SealLine();
        long back = 1L;
        for (int i = 0; i < 6; i++) {
            back *= 2L - TIMES * back;
        }
        x.source(0, 4L ^ -AND * back);
        check.due("mix is 0", x.mix(3, 0, NONE, NONE), 0L);
        check.due("build() of it", Lines.buildAs(x, 1, 3, 0, 0L), 1);
        check.due("it meets", x.note(1, 7), 1);
        check.due("it is clean", x.file(1, 0), 1);
    }

    @Says(promise = 0, words = "ROW of a FILE: it and, for each BUILD of one in its ROW, what went in.")
    static void rowsHoldItselfAndCountNoneTwice(Check check) {
        SealLine x = Lines.withOneFile();
        check.due("a source alone", x.file(0, 5), 1);
        Lines.buildAs(x, 1, 0, 0, 11L);
        Lines.buildAs(x, 1, 0, 0, 12L);
        x.build(1, 0, 1, 2, 1, 13L);
        check.due("two ways to one", x.file(3, 5), 4);
        x.source(2, 20L);
        Lines.buildAs(x, 2, 1, 4, 11L);
        check.due("by a second build of one in it", x.file(3, 5), 5);
        check.due("of one beside it", x.file(2, 5), 2);
        x.source(2, 21L);
        Lines.buildAs(x, 2, 1, 5, 20L);
        check.due("by a build of what was a source", x.file(3, 5), 6);
        x.source(2, 13L);
        check.due("a source takes nothing away", x.file(3, 5), 6);
    }

    @Says(promise = 0, words = "ROW of a FILE: it and, for each BUILD of one in its ROW, what went in.")
    static void aRowOfAHundred(Check check) {
        SealLine x = new SealLine();
        for (int file = 0; file < 100; file++) {
            x.source(file % 4, 100L + file);
        }
        for (int file = 98; file >= 0; file--) {
            Lines.buildAs(x, 5, 0, file, 101L + file);
        }
        check.due("the longest row", x.file(99, 5), 100);
        check.due("the shortest", x.file(0, 5), 1);
        check.due("one of 64", x.file(63, 5), 64);
        check.due("one of 65", x.file(64, 5), 65);
        check.due("a ring through all", Lines.buildAs(x, 5, 0, 99, 100L), NONE);
        check.due("a ring through one step", Lines.buildAs(x, 5, 0, 64, 163L), NONE);
        check.due("makers of the longest", x.file(99, 6), 0b101111);
        check.due("makers of the shortest", x.file(0, 6), 0b1);
    }

    @Says(promise = 0, words = "CLEAN: it has a SOURCE, or a BUILD that MEETS of CLEAN FILES alone.")
    static void oneUncleanInputIsEnough(Check check) {
        SealLine x = Lines.withOneFile();
        Lines.buildAs(x, 1, 0, 0, 55L);
        check.due("a build that does not meet", x.file(1, 0), 0);
        int[][] inputs = {{1, NONE, NONE}, {1, 0, NONE}, {0, 1, NONE}, {1, 0, 0}, {0, 1, 0}, {0, 0, 1}};
        for (int[] in : inputs) {
            int file = x.build(2, 1, in[0], in[1], in[2], x.mix(1, in[0], in[1], in[2]));
            check.due("it meets", x.file(file, 4), 1);
            check.due("of one that is not clean", x.file(file, 0), 0);
        }
        check.due("of clean ones alone", x.file(x.build(2, 1, 0, 0, 0, x.mix(1, 0, 0, 0)), 0), 1);
        x.source(3, 55L);
        for (int file = 1; file <= 8; file++) {
            check.due("all are clean then", x.file(file, 0), 1);
        }
        Lines.buildAs(x, 3, 0, 0, x.hash(8));
        check.due("clean beside a build that does not meet", x.file(8, 0), 1);
    }

    /** Each FILE is there by a BUILD that does not MEET; those that do are told from the far end of the chain on. */
    @Says(promise = 0, words = "CLEAN: it has a SOURCE, or a BUILD that MEETS of CLEAN FILES alone.")
    static void theLongestChainBecomesCleanAtOnce(Check check) {
        SealLine x = Lines.withOneFile();
        long[] hashes = new long[100];
        hashes[1] = 55L;
        Lines.buildAs(x, 0, 5, 0, 55L);
        for (int file = 2; file < 100; file++) {
            hashes[file] = x.mix(0, file - 1, NONE, NONE);
            Lines.buildAs(x, 0, 5, 0, hashes[file]);
        }
        for (int file = 99; file > 1; file--) {
            Lines.buildAs(x, 1, 0, file - 1, hashes[file]);
        }
        check.due("the far end is not clean yet", x.file(99, 0), 0);
        check.due("nor is the near one", x.file(2, 0), 0);
        x.source(0, 55L);
        for (int file = 1; file < 100; file++) {
            check.due("file " + file + " is clean then", x.file(file, 0), 1);
        }
        check.due("the far end is built", x.proof(99, 0), 100);
        check.due("the near end is kept", x.proof(99, 98), 198);
        check.due("no more notes of it", x.proof(99, 99), NONE);
    }

    @Says(promise = 0, words = "MAKERS: the HANDS of all SOURCES and BUILDS of FILES in its ROW.")
    static void makersAreNoOthers(Check check) {
        SealLine x = Lines.withOneFile();
        Lines.buildAs(x, 11, 0, 0, 55L);
        check.due("by a build that does not meet", x.file(1, 6), 1 << 11 | 1);
        x.tries(4, 1, true);
        x.review(5, 1, true);
        x.tries(4, 0, true);
        x.source(6, 60L);
        x.source(7, 55L);
        x.ask(0);
        x.uses(0, 1);
        x.seal(8, 9, 0);
        check.due("no tries, reviews, seals, others", x.file(1, 6), 1 << 11 | 1 << 7 | 1);
        check.due("not by what it went into", x.file(0, 6), 1);
        check.due("no more than one", x.file(2, 6), 1 << 6);
        for (int hand = 0; hand < 12; hand++) {
            check.due("one hand alone", x.file(x.source(hand, 100L + hand), 6), 1 << hand);
        }
    }

    @Says(promise = 0, words = "TRY and REVIEW: a HAND says of a FILE good or not; its latest TRY (REVIEW) "
        + "of it counts.")
    static void theLatestCounts(Check check) {
        SealLine x = Lines.withTwoFiles();
        boolean[] said = {false, true, true, false, false, true};
        for (boolean good : said) {
            x.tries(4, 1, good);
            check.due("t by the latest", x.file(1, 2), good ? 1 : 0);
            x.review(4, 0, good);
            check.due("r by the latest", x.file(0, 3), good ? 1 : 0);
        }
        check.due("a try is no review", x.file(1, 3), 0);
        check.due("a review is no try", x.file(0, 2), 0);
        x.tries(5, 1, false);
        x.review(5, 0, false);
        x.tries(4, 0, false);
        x.review(4, 1, false);
        check.due("t beside other hands, files, reviews", x.file(1, 2), 1);
        check.due("r beside other hands, files, tries", x.file(0, 3), 1);
    }

    @Says(promise = 2, words = "NONE: no such HAND")
    static void sourceByNoHand(Check check) {
        SealLine x = Lines.withOneFile();
        for (int hand : Lines.outside(12)) {
            check.due("a new file, " + hand, x.source(hand, 20L), NONE);
            check.due("one that is there, " + hand, x.source(hand, 10L), NONE);
        }
        check.due("notes", x.count(0), 1);
        check.due("files", x.count(1), 1);
        check.due("nothing to find", x.find(20L), NONE);
        check.due("the last hand", x.source(11, 20L), 1);
    }

    @Says(promise = 2, words = "there are 400 NOTES")
    static void sourceAsTheLastNote(Check check) {
        SealLine x = Lines.withOneFile();
        Lines.fillNotes(x, 399);
        check.due("note 399", x.source(3, 20L), 1);
        check.due("400 notes", x.count(0), 400);
        check.due("a new file", x.source(4, 30L), NONE);
        check.due("one that is there", x.source(4, 10L), NONE);
        check.due("400 notes still", x.count(0), 400);
        check.due("files still", x.count(1), 2);
        check.due("no maker came of it", x.file(0, 6), 1);
        check.due("nothing to find", x.find(30L), NONE);
    }

    @Says(promise = 2, words = "100 FILES and it would be new")
    static void sourceAsTheLastFile(Check check) {
        SealLine x = new SealLine();
        Lines.fillFiles(x);
        check.due("a hundred", x.count(1), 100);
        check.due("one more", x.source(0, 1L), NONE);
        check.due("no note of it", x.count(0), 100);
        check.due("nothing to find", x.find(1L), NONE);
        check.due("nothing told", x.file(100, 5), NONE);
        check.due("the first again", x.source(7, 5000L), 0);
        check.due("the last again", x.source(8, 5099L), 99);
        check.due("notes of these", x.count(0), 102);
    }

    @Says(promise = 3, words = "A BUILD of one FILE or more (b, c NONE: none; c only with b): what came out.")
    static void buildWithCButNoB(Check check) {
        SealLine x = Lines.withTwoFiles();
        check.due("c without b", x.build(0, 0, 0, NONE, 1, 20L), NONE);
        check.due("b without a", x.build(0, 0, NONE, 1, NONE, 20L), NONE);
        check.due("c without a and b", x.build(0, 0, NONE, NONE, 1, 20L), NONE);
        check.due("b and c without a", x.build(0, 0, NONE, 1, 1, 20L), NONE);
        check.due("none at all", x.build(0, 0, NONE, NONE, NONE, 20L), NONE);
        check.due("notes", x.count(0), 2);
        check.due("a alone", x.build(0, 0, 0, NONE, NONE, 20L), 2);
        check.due("a and b", x.build(0, 0, 0, 1, NONE, 21L), 3);
        check.due("a, b and c", x.build(0, 0, 0, 1, 1, 22L), 4);
    }

    @Says(promise = 3, words = "NONE: likewise, no such TOOL, FILES")
    static void buildByNoHandOrTool(Check check) {
        SealLine x = Lines.withTwoFiles();
        for (int hand : Lines.outside(12)) {
            check.due("hand " + hand, x.build(hand, 0, 0, NONE, NONE, 20L), NONE);
        }
        for (int tool : Lines.outside(6)) {
            check.due("tool " + tool, x.build(0, tool, 0, NONE, NONE, 20L), NONE);
        }
        check.due("notes", x.count(0), 2);
        check.due("files", x.count(1), 2);
        check.due("makers", x.file(1, 6), 0b11);
        check.due("the last hand and tool", x.build(11, 5, 0, NONE, NONE, 20L), 2);
    }

    @Says(promise = 3, words = "NONE: likewise, no such TOOL, FILES")
    static void buildOfNoFiles(Check check) {
        SealLine x = Lines.withTwoFiles();
        for (int file : Lines.outside(2)) {
            check.due("a is " + file, x.build(0, 0, file, NONE, NONE, 20L), NONE);
            check.due("a is " + file + " beside b", x.build(0, 0, file, 1, NONE, 20L), NONE);
        }
        for (int file : Lines.outsideButNone(2)) {
            check.due("b is " + file, x.build(0, 0, 0, file, NONE, 20L), NONE);
            check.due("b is " + file + " beside c", x.build(0, 0, 0, file, 1, 20L), NONE);
            check.due("c is " + file, x.build(0, 0, 0, 1, file, 20L), NONE);
            check.due("c is " + file + " without b", x.build(0, 0, 0, NONE, file, 20L), NONE);
        }
        check.due("what would come out", x.build(0, 0, 2, NONE, NONE, x.hash(1)), NONE);
        check.due("notes", x.count(0), 2);
        check.due("files", x.count(1), 2);
        check.due("the last file everywhere", x.build(0, 0, 1, 1, 1, 20L), 2);
    }

    @Says(promise = 3, words = "NONE: likewise")
    static void buildAsTheLastNote(Check check) {
        SealLine x = Lines.withTwoFiles();
        Lines.fillNotes(x, 399);
        check.due("note 399", Lines.buildAs(x, 3, 0, 1, 20L), 2);
        check.due("400 notes", x.count(0), 400);
        check.due("a new file", Lines.buildAs(x, 4, 0, 0, 30L), NONE);
        check.due("one that is there", Lines.buildAs(x, 4, 0, 0, 20L), NONE);
        check.due("one that meets", Lines.buildOf(x, 4, 2, 0), NONE);
        check.due("400 notes still", x.count(0), 400);
        check.due("files still", x.count(1), 3);
        check.due("no maker came of it", x.file(2, 6), 0b1011);
        check.due("no b came of it", x.file(1, 4), 1);
        check.due("no row grew", x.file(2, 5), 3);
    }

    @Says(promise = 3, words = "NONE: likewise")
    static void buildAsTheLastFile(Check check) {
        SealLine x = new SealLine();
        Lines.fillFiles(x);
        check.due("one more", Lines.buildAs(x, 0, 0, 0, 1L), NONE);
        check.due("one more that meets", Lines.buildOf(x, 0, 0, 0), NONE);
        check.due("no note of it", x.count(0), 100);
        check.due("nothing to find", x.find(1L), NONE);
        check.due("the last again", Lines.buildAs(x, 0, 0, 0, 5099L), 99);
        check.due("a note of it", x.count(0), 101);
        SealLine y = new SealLine();
        for (int file = 0; file < 99; file++) {
            y.source(0, 5000L + file);
        }
        check.due("the hundredth", Lines.buildAs(y, 0, 0, 98, 1L), 99);
    }

    @Says(promise = 3, words = "what came out is in the ROW of one of them")
    static void buildInARing(Check check) {
        SealLine x = Lines.withTwoFiles();
        Lines.buildOf(x, 2, 0, 1);
        x.source(3, 30L);
        for (int file = 0; file < 3; file++) {
            long hash = x.hash(file);
            check.due("of itself", x.build(4, 0, file, NONE, NONE, hash), NONE);
            check.due("by a", x.build(4, 0, 2, 3, 3, hash), NONE);
            check.due("by b", x.build(4, 0, 3, 2, NONE, hash), NONE);
            check.due("by b of three", x.build(4, 0, 3, 2, 3, hash), NONE);
            check.due("by c", x.build(4, 0, 3, 3, 2, hash), NONE);
        }
        check.due("notes", x.count(0), 4);
        check.due("makers", x.file(2, 6), 0b111);
        check.due("what is not in it", x.build(4, 0, 2, 1, 0, 30L), 3);
        check.due("and then it is", x.build(4, 0, 3, NONE, NONE, x.hash(2)), NONE);
    }

    @Says(promise = 4, words = "MIX (b, c as with build()).")
    static void mixWithCButNoB(Check check) {
        SealLine x = Lines.withTwoFiles();
        check.due("c without b", x.mix(0, 0, NONE, 1), 0L);
        check.due("none at all", x.mix(0, NONE, NONE, NONE), 0L);
        check.due("b without a", x.mix(0, NONE, 1, NONE), 0L);
        long one = (1L ^ 10L) * TIMES + AND;
        check.due("a alone", x.mix(0, 0, NONE, NONE), one);
        check.due("a twice", x.mix(0, 0, 0, NONE), (one ^ 10L) * TIMES + AND);
        check.due("a three times", x.mix(0, 0, 0, 0), ((one ^ 10L) * TIMES + AND ^ 10L) * TIMES + AND);
    }

    @Says(promise = 4, words = "0: no such TOOL, FILES.")
    static void mixOfNoToolOrFiles(Check check) {
        SealLine x = Lines.withTwoFiles();
        for (int tool : Lines.outside(6)) {
            check.due("tool " + tool, x.mix(tool, 0, NONE, NONE), 0L);
        }
        for (int file : Lines.outside(2)) {
            check.due("a is " + file, x.mix(0, file, NONE, NONE), 0L);
        }
        for (int file : Lines.outsideButNone(2)) {
            check.due("b is " + file, x.mix(0, 0, file, NONE), 0L);
            check.due("b is " + file + " beside c", x.mix(0, 0, file, 1), 0L);
            check.due("c is " + file, x.mix(0, 0, 1, file), 0L);
        }
        check.due("of a new object", new SealLine().mix(0, 0, NONE, NONE), 0L);
        check.due("no note", x.count(0), 2);
        check.due("no file", x.count(1), 2);
        SealLine full = Lines.withOneFile();
        Lines.fillNotes(full, 400);
        check.due("with 400 notes as ever", full.mix(0, 0, NONE, NONE), (1L ^ 10L) * TIMES + AND);
    }

    @Says(promise = 5, words = "NONE: no such HAND, FILE; 400.")
    static void triesOfNone(Check check) {
        SealLine x = Lines.withTwoFiles();
        for (int hand : Lines.outside(12)) {
            check.due("hand " + hand, x.tries(hand, 0, true), NONE);
        }
        for (int file : Lines.outside(2)) {
            check.due("file " + file, x.tries(0, file, true), NONE);
        }
        check.due("notes", x.count(0), 2);
        check.due("t", x.file(0, 2) + x.file(1, 2), 0);
        check.due("the last hand of the last file", x.tries(11, 1, true), 2);
        check.due("of a new object", new SealLine().tries(0, 0, true), NONE);
    }

    @Says(promise = 5, words = "400.")
    static void triesAsTheLastNote(Check check) {
        SealLine x = Lines.withOneFile();
        x.tries(2, 0, true);
        Lines.fillNotes(x, 399);
        check.due("note 399", x.tries(1, 0, true), 399);
        check.due("good with 400", x.tries(3, 0, true), NONE);
        check.due("t as it was", x.file(0, 2), 2);
        check.due("not good with 400", x.tries(2, 0, false), NONE);
        check.due("t as it was", x.file(0, 2), 2);
        check.due("notes", x.count(0), 400);
    }

    @Says(promise = 6, words = "NONE: likewise.")
    static void reviewOfNone(Check check) {
        SealLine x = Lines.withTwoFiles();
        for (int hand : Lines.outside(12)) {
            check.due("hand " + hand, x.review(hand, 0, true), NONE);
        }
        for (int file : Lines.outside(2)) {
            check.due("file " + file, x.review(0, file, true), NONE);
        }
        check.due("notes", x.count(0), 2);
        check.due("r", x.file(0, 3) + x.file(1, 3), 0);
        check.due("the last hand of the last file", x.review(11, 1, true), 2);
        check.due("of a new object", new SealLine().review(0, 0, true), NONE);
    }

    @Says(promise = 6, words = "NONE: likewise.")
    static void reviewAsTheLastNote(Check check) {
        SealLine x = Lines.withOneFile();
        x.review(2, 0, true);
        Lines.fillNotes(x, 399);
        check.due("note 399", x.review(1, 0, true), 399);
        check.due("good with 400", x.review(3, 0, true), NONE);
        check.due("r as it was", x.file(0, 3), 2);
        check.due("not good with 400", x.review(2, 0, false), NONE);
        check.due("r as it was", x.file(0, 3), 2);
        check.due("notes", x.count(0), 400);
    }

    @Says(promise = 19, words = "NONE for others.")
    static void fileForOthers(Check check) {
        SealLine x = Lines.withTwoFiles();
        for (int what = 0; what < 9; what++) {
            for (int file : Lines.outside(2)) {
                check.due("file(" + file + ", " + what + ")", x.file(file, what), NONE);
            }
            check.due("of a new object", new SealLine().file(0, what), NONE);
        }
        for (int what : Lines.outside(9)) {
            check.due("file(1, " + what + ")", x.file(1, what), NONE);
        }
        check.due("the last of both", x.file(1, 8), 0);
    }

    @Says(promise = 19, words = "0 whether it is CLEAN, 1 CALLED BACK")
    static void cleanAndCalledBackAreTwoThings(Check check) {
        SealLine x = Lines.withTwoFiles();
        Lines.buildAs(x, 2, 3, 0, 55L);
        int[] clean = {1, 1, 0};
        int[] called = {0, 1, 1};
        for (int file = 0; file < 3; file++) {
            check.due("clean, " + file, x.file(file, 0), clean[file]);
            check.due("called back, " + file, x.file(file, 1), 0);
        }
        x.recall(0, 1, 0);
        x.recall(0, 2, 0);
        for (int file = 0; file < 3; file++) {
            check.due("clean as before, " + file, x.file(file, 0), clean[file]);
            check.due("called back then, " + file, x.file(file, 1), called[file]);
        }
        check.due("proved though called back", x.proof(1, 1), 1);
    }

    @Says(promise = 19, words = "2 t, 3 r, 4 b, 5 how many FILES its ROW has, 6 its MAKERS as bits")
    static void allHands(Check check) {
        SealLine x = Lines.withOneFile();
        Lines.buildOf(x, 0, 0, 0);
        for (int hand = 0; hand < 12; hand++) {
            x.tries(hand, 0, true);
            x.review(hand, 0, true);
            check.due("t of " + hand, x.file(0, 2), hand + 1);
            check.due("r of " + hand + " but the maker", x.file(0, 3), hand);
            Lines.buildOf(x, hand, 0, 0);
            check.due("b of " + hand, x.file(1, 4), hand + 1);
        }
        check.due("all are makers", x.file(1, 6), 4095);
        x.review(5, 1, true);
        check.due("none is left to review", x.file(1, 3), 0);
        for (int hand = 0; hand < 12; hand++) {
            x.source(hand, 10L);
            check.due("r with more makers", x.file(0, 3), 11 - hand);
        }
    }

    @Says(promise = 19, words = "7 its place in the QUEUE (NONE)")
    static void placeInTheQueue(Check check) {
        SealLine x = Lines.withTwoFiles();
        check.due("asked for by none", x.file(0, 7), NONE);
        x.ask(1);
        x.ask(0);
        check.due("the first", x.file(1, 7), 0);
        check.due("the second", x.file(0, 7), 1);
        x.skip();
        check.due("it left", x.file(1, 7), NONE);
        check.due("the next", x.file(0, 7), 0);
        Lines.sealFirst(x, 0);
        check.due("sealed", x.file(0, 7), NONE);
        x.ask(0);
        check.due("asked for again", x.file(0, 7), 0);
    }

    @Says(promise = 20, words = "HASH of a FILE; 0 for others.")
    static void hashForOthers(Check check) {
        check.due("of a new object", new SealLine().hash(0), 0L);
        SealLine x = new SealLine();
        x.source(0, -1L);
        x.source(0, Long.MIN_VALUE);
        for (int file : Lines.outside(2)) {
            check.due("hash(" + file + ")", x.hash(file), 0L);
        }
        check.due("the first", x.hash(0), -1L);
        check.due("the last", x.hash(1), Long.MIN_VALUE);
        Lines.fillFiles(x);
        check.due("the hundredth", x.hash(99), 5099L);
        check.due("behind it", x.hash(100), 0L);
    }

    @Says(promise = 21, words = "The FILE with a HASH. NONE: none.")
    static void findOfNone(Check check) {
        SealLine x = new SealLine();
        check.due("0 in a new object", x.find(0L), NONE);
        x.source(12, 5L);
        check.due("what was refused", x.find(5L), NONE);
        x.source(0, 5L);
        check.due("0 beside others", x.find(0L), NONE);
        check.due("the first", x.find(5L), 0);
        check.due("the same low half", x.find(5L | 1L << 32), NONE);
        check.due("the same high half", x.find(4L), NONE);
        check.due("below 0", x.find(-5L), NONE);
        Lines.fillFiles(x);
        check.due("the last", x.find(5099L), 99);
        check.due("behind it", x.find(5100L), NONE);
    }

    @Says(promise = 23, words = "NONE where there is none, or for others.")
    static void noteForOthers(Check check) {
        check.due("of a new object", new SealLine().note(0, 0), NONE);
        SealLine x = Lines.readyToSeal(1);
        x.tries(1, 0, false);
        x.review(2, 0, false);
        x.seal(3, 4, 0);
        int[][] none = {{0, 3}, {0, 4}, {0, 5}, {0, 6}, {0, 7}, {1, 3}, {1, 4}, {1, 5}, {1, 6},
            {2, 3}, {2, 4}, {2, 5}, {2, 6}, {3, 3}, {3, 4}, {3, 5}, {3, 6}, {3, 7}};
        for (int[] cell : none) {
            check.due("note(" + cell[0] + ", " + cell[1] + ")", x.note(cell[0], cell[1]), NONE);
        }
        check.due("a try that was not good", x.note(1, 7), 0);
        check.due("a review that was not good", x.note(2, 7), 0);
        for (int what = 0; what < 8; what++) {
            for (int note : Lines.outside(4)) {
                check.due("note(" + note + ", " + what + ")", x.note(note, what), NONE);
            }
        }
        for (int note = 0; note < 4; note++) {
            for (int what : Lines.outside(8)) {
                check.due("note(" + note + ", " + what + ")", x.note(note, what), NONE);
            }
        }
    }

    @Says(promise = 23, words = "2 HAND (the first of a SEAL)")
    static void theLastNote(Check check) {
        SealLine x = Lines.readyToSeal(1);
        Lines.fillNotes(x, 399);
        x.seal(11, 4, 0);
        check.due("its sort", x.note(399, 0), 4);
        check.due("its file", x.note(399, 1), 0);
        check.due("its hand", x.note(399, 2), 11);
        check.due("behind it", x.note(400, 0), NONE);
    }

    @Says(promise = 26, words = "NONE without, or it is not CLEAN, no such FILE.")
    static void proofOfNone(Check check) {
        SealLine x = Lines.withTwoFiles();
        Lines.buildAs(x, 2, 0, 0, 55L);
        for (int i : Lines.outside(2)) {
            check.due("proof(1, " + i + ")", x.proof(1, i), NONE);
        }
        check.due("the last", x.proof(1, 1), 1);
        for (int i = -1; i < 3; i++) {
            check.due("not clean", x.proof(2, i), NONE);
        }
        for (int file : Lines.outside(3)) {
            check.due("proof(" + file + ", 0)", x.proof(file, 0), NONE);
        }
        check.due("of a new object", new SealLine().proof(0, 0), NONE);
        x.source(3, 55L);
        check.due("clean then", x.proof(2, 0), 3);
        check.due("of one note", x.proof(2, 1), NONE);
    }

    @Says(promise = 0, words = "the first of its SOURCES and BUILDS that MEET of CLEAN FILES alone")
    static void theFirstNoteThatProves(Check check) {
        SealLine x = Lines.withOneFile();
        long hash = x.mix(0, 0, NONE, NONE);
        Lines.buildAs(x, 1, 5, 0, hash);
        Lines.buildAs(x, 1, 0, 0, hash);
        x.source(2, hash);
        check.due("not one that does not meet", x.proof(1, 1), 2);
        check.due("and no more", x.proof(1, 2), NONE);
        Lines.buildAs(x, 3, 0, 0, 77L);
        Lines.buildOf(x, 3, 1, 2);
        x.source(4, x.hash(3));
        check.due("not one of files that are not clean", x.proof(3, 0), 6);
        check.due("and no more of it", x.proof(3, 1), NONE);
        x.source(4, 77L);
        check.due("but when they are", x.proof(3, 0), 5);
        check.due("with what went in", x.proof(3, 1), 7);
    }

    @Says(promise = 0, words = "the PROOF are these NOTES of the FILE, and of what went into the BUILDS "
        + "among them, on and on")
    static void theLongestProof(Check check) {
        SealLine x = Lines.withOneFile();
        for (int file = 1; file < 100; file++) {
            Lines.buildOf(x, 1, 0, file - 1);
        }
        for (int i = 0; i < 100; i++) {
            check.due("note " + i + " of a hundred", x.proof(99, i), i);
        }
        check.due("no more", x.proof(99, 100), NONE);
        x.source(5, x.hash(50));
        check.due("a later source is not the first", x.proof(99, 99), 99);
        check.due("a part of it", x.proof(50, 50), 50);
        check.due("no more of that", x.proof(50, 51), NONE);
        check.due("the shortest behind the longest", x.proof(0, 0), 0);
        check.due("no more of the shortest", x.proof(0, 1), NONE);
    }

    @Says(promise = 0, words = "and of what went into the BUILDS among them, on and on")
    static void allThreeThatWentInAreProved(Check check) {
        for (int last = 0; last < 3; last++) {
            SealLine x = new SealLine();
            for (int file = 0; file < 4; file++) {
                x.source(0, 20L + file);
            }
            int a = last == 0 ? 3 : 0;
            int b = last == 1 ? 3 : 1;
            int c = last == 2 ? 3 : 2;
            int top = x.build(1, 2, a, b, c, x.mix(2, a, b, c));
            int[] want = {last == 0 ? 1 : 0, last == 2 ? 1 : 2, 3, 4, NONE};
            for (int i = 0; i < want.length; i++) {
                check.due("note " + i + " of " + a + ", " + b + ", " + c, x.proof(top, i), want[i]);
            }
        }
    }

    @Says(promise = 0, words = "the PROOF are these NOTES of the FILE, and of what went into the BUILDS "
        + "among them, on and on")
    static void aProofHoldsNoNoteTwice(Check check) {
        SealLine x = Lines.withOneFile();
        int left = Lines.buildOf(x, 1, 0, 0);
        int right = Lines.buildOf(x, 1, 1, 0);
        int top = x.build(2, 2, left, right, left, x.mix(2, left, right, left));
        for (int i = 0; i < 4; i++) {
            check.due("two ways to one", x.proof(top, i), i);
        }
        check.due("and no more", x.proof(top, 4), NONE);
        long low = x.mix(0, top, NONE, NONE);
        Lines.buildAs(x, 3, 5, 0, low);
        x.source(4, 90L);
        Lines.buildAs(x, 3, 0, top, low);
        check.due("rising, though it is the last", x.proof(4, 4), 6);
        check.due("and no more of it", x.proof(4, 5), NONE);
    }
}
