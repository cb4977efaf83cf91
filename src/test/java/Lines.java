/** Objects in the states that several tests begin from, and the calls that bring them there. */
final class Lines {
    static final int NONE = SealLine.NONE;
    static final int FAR = Integer.MAX_VALUE;
    static final int FAR_BELOW = Integer.MIN_VALUE;

    private Lines() {
    }

    /** Numbers that are none of 0 .. many - 1, those next to the bounds first. */
    static int[] outside(int many) {
        return new int[] {-1, many, -2, many + 1, many + 256, FAR, FAR_BELOW};
    }

    /** As outside(), where NONE has a meaning of its own. */
    static int[] outsideButNone(int many) {
        return new int[] {-2, many, -3, many + 1, many + 256, FAR, FAR_BELOW};
    }

    static void feedText(SealLine x, String text) {
        for (int from = 0; from < text.length(); from += 4) {
            int word = 0;
            for (int at = from; at < from + 4; at++) {
                word = word << 8 | (at < text.length() ? text.charAt(at) : 0);
            }
            x.feed(word);
        }
    }

    /** The number of the RULE that the text is. */
    static int giveRule(SealLine x, String text) {
        feedText(x, text);
        return x.rule();
    }

    static SealLine withRule(String text) {
        SealLine x = new SealLine();
        giveRule(x, text);
        return x;
    }

    static SealLine withTape(String text) {
        SealLine x = new SealLine();
        feedText(x, text);
        return x;
    }

    /** FILE 0 of HAND 0. */
    static SealLine withOneFile() {
        SealLine x = new SealLine();
        x.source(0, 10L);
        return x;
    }

    /** FILE 0 of HAND 0, FILE 1 built of it by HAND 1 with TOOL 2, both CLEAN. */
    static SealLine withTwoFiles() {
        SealLine x = withOneFile();
        buildOf(x, 1, 2, 0);
        return x;
    }

    /** FILE 0 of HAND 0 asked for, KEY 0 with some uses. */
    static SealLine readyToSeal(int uses) {
        SealLine x = withOneFile();
        x.ask(0);
        x.uses(0, uses);
        return x;
    }

    /** A BUILD of one FILE that MEETS. */
    static int buildOf(SealLine x, int hand, int tool, int a) {
        return x.build(hand, tool, a, NONE, NONE, x.mix(tool, a, NONE, NONE));
    }

    /** A BUILD of one FILE with a HASH told. */
    static int buildAs(SealLine x, int hand, int tool, int a, long hash) {
        return x.build(hand, tool, a, NONE, NONE, hash);
    }

    /** TRIES of HAND 11 of FILE 0, not good, until there are so many NOTES. */
    static void fillNotes(SealLine x, int upTo) {
        for (int note = x.count(0); note < upTo; note++) {
            x.tries(11, 0, false);
        }
    }

    /** SOURCES with the HASHES 5000 and the FILE's number, until there are a hundred FILES. */
    static void fillFiles(SealLine x) {
        for (int file = x.count(1); file < 100; file++) {
            x.source(file % 12, 5000L + file);
        }
    }

    /** The first of the QUEUE is sealed by HANDS 10 and 11 with a KEY that gets a use for it. */
    static int sealFirst(SealLine x, int key) {
        x.uses(key, 1);
        return x.seal(10, 11, key);
    }
}
