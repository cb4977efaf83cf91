import java.io.IOException;

/** The edges of what the document says of the QUEUE, SEALS and KEYS: a test for each sentence. */
public final class SealEdgeTest {
    private static final int NONE = Lines.NONE;

    private SealEdgeTest() {
    }

    public static void main(String[] args) throws IOException, ReflectiveOperationException {
        Sentences.run(SealEdgeTest.class);
    }

    /** FILE 0 of HAND 0 sealed with each KEY in turn, on the TICKS 1 to many; it is asked for again behind each. */
    private static SealLine sealedInTurn(int many) {
        SealLine x = Lines.withOneFile();
        x.ask(0);
        for (int i = 0; i < many; i++) {
            Lines.sealFirst(x, i % 4);
            x.ask(0);
        }
        return x;
    }

    @Says(promise = 0, words = "KEYS 0 .. 3")
    static void everyKeySeals(Check check) {
        SealLine x = Lines.withOneFile();
        for (int key = 0; key <= 3; key++) {
            x.ask(0);
            check.due("uses() of " + key, x.uses(key, key + 1), key + 1);
            check.due("seal() with " + key, x.seal(10, 11, key), key);
            check.due("its key", x.sealed(key, 1), key);
            check.due("uses left", x.key(key, 0), key);
            check.due("its seals", x.key(key, 3), 1);
        }
        for (int key = 0; key <= 3; key++) {
            check.due("finish() of " + key, x.finish(key), true);
            check.due("lose() of " + key, x.lose(key, 0), 1);
        }
    }

    @Says(promise = 0, words = "The QUEUE: FILES in the order in which they were asked for, none twice.")
    static void theOrderOfTheQueue(Check check) {
        SealLine x = new SealLine();
        Lines.fillFiles(x);
        for (int i = 0; i < 100; i++) {
            check.due("place " + i, x.ask(i * 37 % 100), i);
        }
        check.due("a hundred", x.count(4), 100);
        check.due("the first twice", x.ask(0), NONE);
        check.due("the last twice", x.ask(63), NONE);
        for (int i = 0; i < 99; i++) {
            check.due("in order", x.skip(), i * 37 % 100);
        }
        check.due("one is left", x.count(4), 1);
        check.due("what left is asked for again", x.ask(0), 1);
        check.due("what is left is in it", x.ask(63), NONE);
    }

    @Says(promise = 0, words = "SEALING: the first of the QUEUE, by two unlike HANDS who are no MAKERS of it")
    static void theFirstAlone(Check check) {
        SealLine x = Lines.withTwoFiles();
        x.ask(1);
        x.ask(0);
        x.uses(0, 5);
        check.due("hand 1 made the first", x.seal(1, 5, 0), NONE);
        check.due("as the other hand", x.seal(5, 1, 0), NONE);
        check.due("hand 0 made what went in", x.seal(5, 0, 0), NONE);
        check.due("alike", x.seal(5, 5, 0), NONE);
        check.due("unlike", x.seal(5, 6, 0), 0);
        check.due("the first was sealed", x.sealed(0, 0), 1);
        check.due("hand 1 did not make the next", x.seal(1, 5, 0), 1);
        check.due("the next was sealed", x.sealed(1, 0), 0);
    }

    @Says(promise = 0, words = "a SEAL with the next number (0, 1, ..); the KEY has one use less; it leaves the QUEUE")
    static void numbersWithoutAGap(Check check) {
        SealLine x = Lines.withOneFile();
        x.uses(2, 3);
        for (int seal = 0; seal < 3; seal++) {
            check.due("an empty queue", x.seal(10, 11, 2), NONE);
            x.ask(0);
            check.due("a maker", x.seal(0, 11, 2), NONE);
            check.due("no uses", x.seal(10, 11, 1), NONE);
            check.due("none came of these", x.count(3), seal);
            check.due("the use is left", x.key(2, 0), 3 - seal);
            check.due("it is in the queue", x.count(4), 1);
            check.due("the next number", x.seal(10, 11, 2), seal);
            check.due("one use less", x.key(2, 0), 2 - seal);
            check.due("it left the queue", x.count(4), 0);
            check.due("its tick", x.sealed(seal, 2), seal + 1);
        }
        x.ask(0);
        check.due("no uses left", x.seal(10, 11, 2), NONE);
        check.due("none below 0", x.key(2, 0), 0);
    }

    @Says(promise = 0, words = "A KEY has uses (0 at first; up to 1,000 more are told at a time).")
    static void noUsesAtFirst(Check check) {
        for (int key = 0; key <= 3; key++) {
            SealLine x = Lines.withOneFile();
            x.ask(0);
            check.due("uses at first", x.key(key, 0), 0);
            check.due("it cannot seal", x.why(10, 11, key), 4);
            check.due("a thousand more", x.uses(key, 1000), 1000);
            check.due("and more", x.uses(key, 1000), 2000);
            check.due("of this key alone", x.key((key + 1) % 4, 0), 0);
        }
    }

    @Says(promise = 0, words = "ENDED: no more seals with it from then on.")
    static void endedKeysSealNoMore(Check check) {
        SealLine x = Lines.readyToSeal(5);
        x.seal(10, 11, 0);
        x.ask(0);
        x.finish(0);
        check.due("no more", x.seal(10, 11, 0), NONE);
        check.due("what it sealed stands", x.sealed(0, 6), 1);
        check.due("another key", Lines.sealFirst(x, 1), 1);
        check.due("uses stay", x.key(0, 0), 4);
    }

    @Says(promise = 0, words = "LOST since a TICK: likewise, and its SEALS on that TICK or behind do not STAND.")
    static void lostSinceEachTick(Check check) {
        for (int since = 0; since <= 9; since++) {
            SealLine x = sealedInTurn(8);
            check.due("lose(1, " + since + ")", x.lose(1, since), since <= 2 ? 2 : since <= 6 ? 1 : 0);
            check.due("no more seals", Lines.sealFirst(x, 1), NONE);
            int stand = 0;
            for (int seal = 0; seal < 8; seal++) {
                boolean stands = seal % 4 != 1 || seal + 1 < since;
                stand += stands ? 1 : 0;
                check.due("seal " + seal + " lost since " + since, x.sealed(seal, 6), stands ? 1 : 0);
            }
            check.due("how many stand", x.count(6), stand);
            check.due("how many of the file", x.file(0, 8), stand);
            check.due("another key seals", Lines.sealFirst(x, 0), 8);
        }
    }

    @Says(promise = 0, words = "A SEAL STANDS if its KEY was not LOST by its TICK, and its FILE is not CALLED BACK.")
    static void bothMustHold(Check check) {
        SealLine x = Lines.withTwoFiles();
        for (int i = 0; i < 4; i++) {
            x.ask(i % 2);
            Lines.sealFirst(x, i / 2);
        }
        check.due("all stand", x.count(6), 4);
        x.lose(1, 0);
        check.due("by a key lost", x.count(6), 2);
        x.recall(0, 1, 0);
        int[] stands = {1, 0, 0, 0};
        for (int seal = 0; seal < 4; seal++) {
            check.due("seal " + seal, x.sealed(seal, 6), stands[seal]);
        }
        check.due("of file 0", x.file(0, 8), 1);
        check.due("of file 1", x.file(1, 8), 0);
        check.due("seals of the lost key", x.key(1, 3), 2);
        check.due("seals in all", x.count(3), 4);
        check.due("by its recall too", x.recall(0, 0, 0), 2);
        check.due("none stands", x.count(6), 0);
    }

    @Says(promise = 11, words = "NONE: no such FILE, it is in it.")
    static void askForNone(Check check) {
        check.due("of a new object", new SealLine().ask(0), NONE);
        SealLine x = Lines.withTwoFiles();
        for (int file : Lines.outside(2)) {
            check.due("ask(" + file + ")", x.ask(file), NONE);
        }
        check.due("none came of it", x.count(4), 0);
        check.due("the last file", x.ask(1), 0);
        check.due("it is in it", x.ask(1), NONE);
        check.due("the first file", x.ask(0), 1);
        check.due("both are in it", x.ask(0) + x.ask(1), 2 * NONE);
        check.due("two", x.count(4), 2);
        check.due("the first is the first", x.count(8), 1);
        x.seal(10, 11, 0);
        check.due("in it behind a refused seal", x.ask(1), NONE);
    }

    @Says(promise = 11, words = "A FILE is asked for: its place in the QUEUE (0 the first).")
    static void askForWhatCannotBeSealed(Check check) {
        SealLine x = Lines.withOneFile();
        Lines.buildAs(x, 1, 0, 0, 55L);
        x.recall(0, 1, 0);
        check.due("not clean, called back", x.ask(1), 0);
        check.due("another", x.ask(0), 1);
        Lines.fillNotes(x, 400);
        x.skip();
        check.due("with 400 notes", x.ask(1), 1);
    }

    @Says(promise = 12, words = "NONE: it is empty; else the FILE.")
    static void skipOfNone(Check check) {
        SealLine x = Lines.withTwoFiles();
        check.due("empty", x.skip(), NONE);
        check.due("still none", x.count(4), 0);
        x.ask(1);
        x.ask(0);
        check.due("the first", x.skip(), 1);
        check.due("one is left", x.count(4), 1);
        check.due("the next", x.skip(), 0);
        check.due("empty again", x.skip(), NONE);
        check.due("no seals", x.count(3), 0);
        check.due("no notes", x.count(0), 2);
        check.due("it may be asked for again", x.ask(1), 0);
    }

    @Says(promise = 13, words = "SEALING: the SEAL's number. NONE: it may not be.")
    static void sealAsTheLastNote(Check check) {
        SealLine x = Lines.readyToSeal(2);
        Lines.fillNotes(x, 399);
        check.due("note 399", x.seal(10, 11, 0), 0);
        check.due("its tick", x.sealed(0, 2), 399);
        x.ask(0);
        check.due("with 400", x.seal(10, 11, 0), NONE);
        check.due("one seal", x.count(3), 1);
        check.due("its use is left", x.key(0, 0), 1);
        check.due("it is in the queue", x.count(8), 0);
        check.due("400 notes", x.count(0), 400);
    }

    @Says(promise = 13, words = "SEALING: the SEAL's number. NONE: it may not be.")
    static void manySeals(Check check) {
        SealLine x = Lines.readyToSeal(1000);
        for (int seal = 0; seal < 250; seal++) {
            check.due("seal " + seal, x.seal(10, 11, 0), seal);
            x.ask(0);
        }
        check.due("seals", x.count(3), 250);
        check.due("all stand", x.count(6), 250);
        check.due("of the file", x.file(0, 8), 250);
        check.due("of the key", x.key(0, 3), 250);
        check.due("uses left", x.key(0, 0), 750);
        check.due("the last one's tick", x.sealed(249, 2), 250);
    }

    /** Every set of the causes at once; the HANDS and the KEY are told wrongly or rightly for each. */
    @Says(promise = 14, words = "Why SEALING would be refused, the first that holds")
    static void theFirstCauseThatHolds(Check check) {
        for (int causes = 0; causes < 256; causes++) {
            SealLine x = withCauses(causes);
            int one = has(causes, 2) ? 12 : 10;
            int other = has(causes, 3) ? 0 : 11;
            int key = has(causes, 4) ? 4 : 3;
            int first = causes == 0 ? 0 : Integer.numberOfTrailingZeros(causes) + 1;
            int before = x.count(0);
            check.due("why() of " + Integer.toBinaryString(causes), x.why(one, other, key), first);
            check.due("nothing came of it", x.count(0), before);
            check.due("seal() of " + Integer.toBinaryString(causes), x.seal(one, other, key), first == 0 ? 0 : NONE);
            check.due("a note or none", x.count(0), first == 0 ? before + 1 : before);
            check.due("a use or none", x.key(3, 0), first == 0 ? 0 : 1);
        }
    }

    private static boolean has(int causes, int cause) {
        return (causes >> (cause - 1) & 1) != 0;
    }

    private static SealLine withCauses(int causes) {
        SealLine x = Lines.withOneFile();
        Lines.buildAs(x, 1, 0, 0, 55L);
        if (!has(causes, 5)) {
            x.source(0, 55L);
        }
        if (!has(causes, 1)) {
            x.ask(1);
        }
        x.uses(3, 1);
        Lines.giveRule(x, has(causes, 6) ? "t>0" : "t=0");
        if (has(causes, 7)) {
            x.recall(0, 1, 0);
        }
        if (has(causes, 8)) {
            Lines.fillNotes(x, 400);
        }
        return x;
    }

    @Says(promise = 14, words = "2 no such HANDS, or alike")
    static void whyOfNoHands(Check check) {
        SealLine x = Lines.readyToSeal(1);
        for (int hand : Lines.outside(12)) {
            check.due("one is " + hand, x.why(hand, 5, 0), 2);
            check.due("the other is " + hand, x.why(5, hand, 0), 2);
            check.due("both are " + hand, x.why(hand, hand, 0), 2);
            check.due("beside a maker", x.why(hand, 0, 0), 2);
            check.due("seal()", x.seal(hand, 5, 0), NONE);
        }
        for (int hand = 0; hand < 12; hand++) {
            check.due("alike, " + hand, x.why(hand, hand, 0), 2);
        }
        check.due("the first and the last", x.why(1, 11, 0), 0);
        check.due("the last and the first", x.why(11, 1, 0), 0);
    }

    @Says(promise = 14, words = "3 one is a MAKER")
    static void whyOfMakers(Check check) {
        SealLine x = Lines.withOneFile();
        x.source(11, 20L);
        x.build(5, 0, 0, 1, NONE, x.mix(0, 0, 1, NONE));
        x.ask(2);
        x.uses(0, 1);
        for (int one = 0; one < 12; one++) {
            for (int other = 0; other < 12; other++) {
                boolean maker = one == 0 || one == 5 || one == 11 || other == 0 || other == 5 || other == 11;
                check.due("why(" + one + ", " + other + ")", x.why(one, other, 0), one == other ? 2 : maker ? 3 : 0);
            }
        }
        x.source(1, 10L);
        check.due("a maker since", x.why(1, 2, 0), 3);
    }

    @Says(promise = 14, words = "4 no such KEY, no uses, ended or lost")
    static void whyOfNoKeys(Check check) {
        SealLine x = Lines.readyToSeal(1);
        for (int key : Lines.outside(4)) {
            check.due("key " + key, x.why(10, 11, key), 4);
            check.due("seal() with " + key, x.seal(10, 11, key), NONE);
        }
        check.due("no uses", x.why(10, 11, 3), 4);
        x.uses(3, 1);
        check.due("the last key", x.why(10, 11, 3), 0);
        x.finish(3);
        check.due("ended", x.why(10, 11, 3), 4);
        x.uses(2, 1);
        x.lose(2, 1);
        check.due("lost since what is to come", x.why(10, 11, 2), 4);
        check.due("with uses", x.why(10, 11, 0), 0);
        x.seal(10, 11, 0);
        x.ask(0);
        check.due("none left", x.why(10, 11, 0), 4);
    }

    @Says(promise = 14, words = "1 the QUEUE is empty")
    static void whyOfAnEmptyQueue(Check check) {
        SealLine x = new SealLine();
        check.due("of a new object", x.why(0, 1, 0), 1);
        check.due("with nothing right", x.why(-1, -1, -1), 1);
        x.source(0, 10L);
        x.ask(0);
        check.due("not empty", x.why(-1, -1, -1), 2);
        x.skip();
        check.due("empty again", x.why(-1, -1, -1), 1);
        check.due("seal()", x.seal(10, 11, 0), NONE);
    }

    @Says(promise = 14, words = "5 not CLEAN, 6 the RULE, 7 CALLED BACK")
    static void whyOfTheFileItself(Check check) {
        SealLine x = Lines.withOneFile();
        Lines.buildAs(x, 1, 0, 0, 55L);
        x.ask(1);
        x.uses(0, 1);
        check.due("not clean", x.why(10, 11, 0), 5);
        x.source(1, 55L);
        check.due("clean", x.why(10, 11, 0), 0);
        Lines.giveRule(x, "t>1");
        check.due("the rule", x.why(10, 11, 0), 6);
        x.tries(2, 1, true);
        check.due("the rule, one too few", x.why(10, 11, 0), 6);
        x.tries(3, 1, true);
        check.due("just enough", x.why(10, 11, 0), 0);
        x.tries(2, 1, false);
        check.due("one less again", x.why(10, 11, 0), 6);
        Lines.giveRule(x, "t=1");
        check.due("by the next rule", x.why(10, 11, 0), 0);
        x.recall(0, 0, 0);
        check.due("called back by its row", x.why(10, 11, 0), 7);
        check.due("no seal came of it", x.count(3), 0);
    }

    @Says(promise = 14, words = "8 there are 400 NOTES; 0 it would be done")
    static void whyOfTheLastNote(Check check) {
        SealLine x = Lines.readyToSeal(1);
        Lines.fillNotes(x, 399);
        check.due("399", x.why(10, 11, 0), 0);
        Lines.fillNotes(x, 400);
        check.due("400", x.why(10, 11, 0), 8);
        x.recall(0, 0, 0);
        check.due("7 comes first", x.why(10, 11, 0), 7);
        Lines.giveRule(x, "t>0");
        check.due("6 comes first", x.why(10, 11, 0), 6);
    }

    @Says(promise = 15, words = "Uses more for a KEY (1 .. 1,000): how many then.")
    static void usesAreAddedToWhatIsLeft(Check check) {
        SealLine x = Lines.readyToSeal(1);
        check.due("a thousand", x.uses(0, 1000), 1001);
        x.seal(10, 11, 0);
        check.due("one more", x.uses(0, 1), 1001);
        check.due("999 more", x.uses(0, 999), 2000);
        for (int many : new int[] {0, -1, 1001, 1002, -1000, 1 << 16, Lines.FAR, Lines.FAR_BELOW}) {
            check.due("uses(0, " + many + ")", x.uses(0, many), NONE);
            check.due("as many as before", x.key(0, 0), 2000);
        }
    }

    @Says(promise = 15, words = "NONE: no such KEY, out of bounds, ended or lost")
    static void usesOfNoKey(Check check) {
        SealLine x = Lines.withOneFile();
        for (int key : Lines.outside(4)) {
            check.due("key " + key, x.uses(key, 1), NONE);
        }
        x.uses(0, 5);
        x.finish(0);
        check.due("ended", x.uses(0, 1), NONE);
        check.due("as many as before", x.key(0, 0), 5);
        x.uses(3, 7);
        x.lose(3, 1);
        check.due("lost", x.uses(3, 1), NONE);
        check.due("as many as before", x.key(3, 0), 7);
        check.due("another", x.uses(1, 1), 1);
    }

    /** No object gets there in the 512 calls that are promised; the limit must hold all the same. */
    @Says(promise = 15, words = "above 1,000,000")
    static void aMillionUses(Check check) {
        SealLine x = new SealLine();
        for (int i = 1; i <= 999; i++) {
            x.uses(0, 1000);
        }
        check.due("999,999", x.uses(0, 999), 999999);
        check.due("two more", x.uses(0, 2), NONE);
        check.due("as many as before", x.key(0, 0), 999999);
        check.due("one more", x.uses(0, 1), 1000000);
        check.due("and one more", x.uses(0, 1), NONE);
        check.due("and a thousand", x.uses(0, 1000), NONE);
        check.due("a million", x.key(0, 0), 1000000);
        check.due("another key", x.uses(1, 1), 1);
    }

    @Says(promise = 16, words = "A KEY is ENDED. False: no such one, it is, or LOST.")
    static void finishOfNone(Check check) {
        SealLine x = new SealLine();
        for (int key : Lines.outside(4)) {
            check.due("finish(" + key + ")", x.finish(key), false);
        }
        for (int key = 0; key < 4; key++) {
            check.due("none is ended by that", x.key(key, 1), 0);
        }
        check.due("the last", x.finish(3), true);
        check.due("it is", x.finish(3), false);
        check.due("it stays so", x.key(3, 1), 1);
        x.lose(0, 0);
        check.due("lost", x.finish(0), false);
        check.due("it is not ended", x.key(0, 1), 0);
        check.due("no others", x.key(1, 1) + x.key(2, 1), 0);
        x.lose(3, 0);
        check.due("ended and lost", x.finish(3), false);
    }

    @Says(promise = 17, words = "A KEY is LOST since a TICK (0 .. how many NOTES there are)")
    static void ticksOfLose(Check check) {
        for (int notes = 0; notes <= 3; notes++) {
            SealLine x = new SealLine();
            for (int i = 0; i < notes; i++) {
                x.source(0, i);
            }
            for (int since : Lines.outside(notes + 1)) {
                check.due("since " + since + " of " + notes, x.lose(0, since), NONE);
            }
            check.due("not lost by these", x.key(0, 2), NONE);
            check.due("since the first", x.lose(0, 0), 0);
            check.due("since what comes next", x.lose(3, notes), 0);
            check.due("told", x.key(3, 2), notes);
            check.due("told", x.key(0, 2), 0);
        }
        SealLine full = Lines.withOneFile();
        Lines.fillNotes(full, 400);
        check.due("since 401 of 400", full.lose(0, 401), NONE);
        check.due("since 400 of 400", full.lose(0, 400), 0);
        check.due("since 399 of 400", full.lose(1, 399), 0);
    }

    @Says(promise = 17, words = "how many of its SEALS no longer STAND by that (they may have been CALLED BACK)")
    static void sealsCalledBackAreCounted(Check check) {
        SealLine x = sealedInTurn(9);
        check.due("of another key, from its second on", x.lose(1, 3), 1);
        x.recall(0, 0, 0);
        check.due("none stands", x.count(6), 0);
        check.due("all of its seals", x.lose(0, 0), 3);
        check.due("from its second on", x.lose(2, 4), 1);
        check.due("behind its last", x.lose(3, 9), 0);
    }

    @Says(promise = 17, words = "NONE: no such KEY, TICK; it is LOST.")
    static void loseOfNone(Check check) {
        SealLine x = sealedInTurn(4);
        for (int key : Lines.outside(4)) {
            check.due("lose(" + key + ", 0)", x.lose(key, 0), NONE);
        }
        check.due("all stand", x.count(6), 4);
        check.due("lost", x.lose(0, 2), 0);
        for (int since = 0; since <= 4; since++) {
            check.due("it is", x.lose(0, since), NONE);
        }
        check.due("since when, still", x.key(0, 2), 2);
        check.due("its seal stands still", x.sealed(0, 6), 1);
        x.finish(1);
        check.due("one that is ended", x.lose(1, 0), 1);
        check.due("it is ended still", x.key(1, 1), 1);
        check.due("its seal does not stand", x.sealed(1, 6), 0);
    }

    @Says(promise = 19, words = "8 how many SEALS of it STAND")
    static void howManyOfAFileStand(Check check) {
        SealLine x = sealedInTurn(6);
        x.source(3, 20L);
        check.due("all six", x.file(0, 8), 6);
        check.due("none of another", x.file(1, 8), 0);
        x.lose(0, 5);
        check.due("five", x.file(0, 8), 5);
        x.lose(1, 0);
        check.due("three", x.file(0, 8), 3);
        x.finish(2);
        check.due("three with a key ended", x.file(0, 8), 3);
        x.skip();
        x.ask(1);
        Lines.sealFirst(x, 3);
        x.recall(0, 0, 0);
        check.due("none called back", x.file(0, 8), 0);
        check.due("one of another", x.file(1, 8), 1);
    }

    @Says(promise = 22, words = "NONE for others.")
    static void sealedForOthers(Check check) {
        for (int what = 0; what < 7; what++) {
            check.due("of a new object", new SealLine().sealed(0, what), NONE);
        }
        SealLine x = sealedInTurn(2);
        for (int what = 0; what < 7; what++) {
            for (int seal : Lines.outside(2)) {
                check.due("sealed(" + seal + ", " + what + ")", x.sealed(seal, what), NONE);
            }
        }
        for (int what : Lines.outside(7)) {
            check.due("sealed(0, " + what + ")", x.sealed(0, what), NONE);
            check.due("sealed(1, " + what + ")", x.sealed(1, what), NONE);
        }
        check.due("the last of both", x.sealed(1, 6), 1);
    }

    @Says(promise = 22, words = "3, 4 its HANDS as told, 5 the RULE (NONE: none was)")
    static void eachSealByTheRuleOfItsTime(Check check) {
        SealLine x = Lines.readyToSeal(9);
        x.seal(11, 1, 0);
        x.ask(0);
        for (int rule = 0; rule < 3; rule++) {
            Lines.giveRule(x, "t=0");
            x.seal(1, 11, 0);
            x.ask(0);
        }
        check.due("the first hand", x.sealed(0, 3), 11);
        check.due("the other", x.sealed(0, 4), 1);
        check.due("the first hand the other way round", x.sealed(1, 3), 1);
        check.due("the other", x.sealed(1, 4), 11);
        for (int seal = 0; seal < 4; seal++) {
            check.due("rule of " + seal, x.sealed(seal, 5), seal == 0 ? NONE : seal - 1);
        }
    }

    @Says(promise = 29, words = "NONE for others.")
    static void keyForOthers(Check check) {
        SealLine x = Lines.readyToSeal(5);
        x.seal(10, 11, 0);
        for (int what = 0; what < 4; what++) {
            for (int key : Lines.outside(4)) {
                check.due("key(" + key + ", " + what + ")", x.key(key, what), NONE);
            }
        }
        for (int key = 0; key < 4; key++) {
            for (int what : Lines.outside(4)) {
                check.due("key(" + key + ", " + what + ")", x.key(key, what), NONE);
            }
        }
        check.due("the last of both", x.key(3, 3), 0);
        check.due("its seals", x.key(0, 3), 1);
    }

    @Says(promise = 29, words = "0 uses left, 1 whether it is ENDED, 2 since when it is LOST (NONE), 3 its SEALS")
    static void keysAtEachEnd(Check check) {
        SealLine x = sealedInTurn(8);
        x.finish(1);
        x.lose(2, 0);
        x.uses(3, 6);
        x.finish(3);
        x.lose(3, 8);
        int[][] want = {{0, 0, NONE, 2}, {0, 1, NONE, 2}, {0, 0, 0, 2}, {6, 1, 8, 2}};
        for (int key = 0; key < 4; key++) {
            for (int what = 0; what < 4; what++) {
                check.due("key(" + key + ", " + what + ")", x.key(key, what), want[key][what]);
            }
        }
    }
}
