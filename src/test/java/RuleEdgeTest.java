import java.io.IOException;

/** The edges of what the document says of the TAPE, RULES and JUDGING: a test for each sentence. */
public final class RuleEdgeTest {
    private static final int NONE = Lines.NONE;
    private static final String EIGHT = "((((((((";

    private RuleEdgeTest() {
    }

    public static void main(String[] args) throws IOException, ReflectiveOperationException {
        Sentences.run(RuleEdgeTest.class);
    }

    private static void dueFault(Check check, String text, int want) {
        check.due("fault() of '" + text + "'", Lines.withTape(text).fault(), want);
    }

    private static void dueGood(Check check, String... texts) {
        for (String text : texts) {
            dueFault(check, text, NONE);
        }
    }

    private static void dueJudged(Check check, String text, int least, int makers) {
        SealLine x = Lines.withRule(text);
        check.due("rules of '" + text + "'", x.count(2), 1);
        check.due("least() of '" + text + "'", x.least(), least);
        check.due("makers() of '" + text + "'", x.makers(), makers);
    }

    /** Whether a FILE with so many TRIES, REVIEWS and BUILDS that are good may be sealed by a RULE. */
    private static boolean holds(String rule, int t, int r, int b) {
        SealLine x = Lines.withOneFile();
        long hash = x.mix(0, 0, NONE, NONE);
        x.source(0, hash);
        for (int i = 0; i < b; i++) {
            Lines.buildAs(x, i, 0, 0, hash);
        }
        for (int i = 0; i < t; i++) {
            x.tries(i, 1, true);
        }
        for (int i = 0; i < r; i++) {
            x.review(11 - i, 1, true);
        }
        x.ask(1);
        x.uses(0, 1);
        Lines.giveRule(x, rule);
        int why = x.why(10, 11, 0);
        if (why != 0 && why != 6 || x.count(2) != 1) {
            throw new IllegalStateException("why() is " + why + " by " + rule);
        }
        return why == 0;
    }

    @Says(promise = 0, words = "RULES: bytes: TESTS: parts with | between; a part: units with & between")
    static void nothingMayBeMissingBetween(Check check) {
        dueGood(check, "t=1|r=1", "t=1&r=1", "t=1|r=1|b=1", "t=1&r=1&b=1", "t=1|r=1&b=1|t=2");
        dueFault(check, "|t=1", 0);
        dueFault(check, "&t=1", 0);
        dueFault(check, "t=1|", 4);
        dueFault(check, "t=1&", 4);
        dueFault(check, "t=1||r=1", 4);
        dueFault(check, "t=1&&r=1", 4);
        dueFault(check, "t=1|&r=1", 4);
        dueFault(check, "t=1&|r=1", 4);
        dueFault(check, "t=1r=1", 3);
        dueFault(check, "t=1,r=1", 3);
    }

    @Says(promise = 0, words = "TESTS: parts with | between; a part: units with & between")
    static void unitsHoldTogetherAheadOfParts(Check check) {
        for (int bits = 0; bits < 8; bits++) {
            int t = bits & 1;
            int r = bits >> 1 & 1;
            int b = bits >> 2;
            boolean isT = t == 1;
            boolean isR = r == 1;
            boolean isB = b == 1;
            check.due("t|r|b " + bits, holds("t=1|r=1|b=1", t, r, b), isT || isR || isB);
            check.due("t&r&b " + bits, holds("t=1&r=1&b=1", t, r, b), isT && isR && isB);
            check.due("t|r&b " + bits, holds("t=1|r=1&b=1", t, r, b), isT || isR && isB);
            check.due("t&r|b " + bits, holds("t=1&r=1|b=1", t, r, b), isT && isR || isB);
            check.due("(t|r)&b " + bits, holds("(t=1|r=1)&b=1", t, r, b), (isT || isR) && isB);
            check.due("t&(r|b) " + bits, holds("t=1&(r=1|b=1)", t, r, b), isT && (isR || isB));
            check.due("(t|r&b)&(r|b) " + bits, holds("(t=1|r=1&b=1)&(r=1|b=1)", t, r, b),
                (isT || isR && isB) && (isR || isB));
            check.due("t&((r|b)&(t|b)|r) " + bits, holds("t=1&((r=1|b=1)&(t=0|b=1)|r=1)", t, r, b),
                isT && ((isR || isB) && (!isT || isB) || isR));
        }
    }

    @Says(promise = 0, words = "a unit: ( TESTS ), or a letter, one of = < >, a number (1 or 2 digits)")
    static void whatAUnitIs(Check check) {
        dueGood(check, "t=1", "r<1", "b>1", "(t=1)", "((t=1)&r=1)|(b=1)");
        for (String wrong : new String[] {"T=1", "R=1", "B=1", "s=1", "u=1", "q=1", "a=1", "c=1", "=1", "1", ")"}) {
            dueFault(check, wrong, 0);
        }
        for (String wrong : new String[] {"t!1", "t;1", "t?1", "t1", "tt=1", "t(1)", "t)", "t&"}) {
            dueFault(check, wrong, 1);
        }
        for (String wrong : new String[] {"t==1", "t=<1", "t<=1", "t<>1", "t=t", "t=/", "t=:", "t=-1", "t=(1)"}) {
            dueFault(check, wrong, 2);
        }
        dueFault(check, "()", 1);
        dueFault(check, "(t=1))", 5);
        dueFault(check, "t=1)", 3);
        dueFault(check, "(t=1)(r=1)", 5);
        dueFault(check, "(t=1)r=1", 5);
        dueFault(check, "t=1(r=1)", 3);
        dueFault(check, "(t=1)1", 5);
    }

    @Says(promise = 0, words = "a number (1 or 2 digits)")
    static void oneOrTwoDigits(Check check) {
        for (int digit = 0; digit < 10; digit++) {
            dueGood(check, "t=" + digit, "t=" + digit + "0", "t=0" + digit);
            dueFault(check, "t=12" + digit, 4);
        }
        check.due("03 is 3", holds("t=03", 3, 0, 0), true);
        check.due("10 is ten", holds("t=10", 10, 0, 0), true);
        check.due("10 is not one", holds("t=10", 1, 0, 0), false);
        check.due("10 is not none", holds("t<01", 1, 0, 0), false);
        check.due("99 is above all", holds("t<99&r<99&b<99", 12, 11, 10), true);
        check.due("00 is below all", holds("t>00&r>00&b>00", 1, 1, 1), true);
    }

    @Says(promise = 0, words = "Letters of a FILE: t HANDS whose TRY of it is good; r HANDS, no MAKERS of it, "
        + "whose REVIEW of it is good; b unlike HANDS with a BUILD of it that MEETS")
    static void eachSignAtEachNumber(Check check) {
        for (int value = 0; value <= 12; value++) {
            for (int number = 0; number <= 13; number++) {
                dueSigns(check, "t", value, number, value, 0, 0);
                if (value <= 11) {
                    dueSigns(check, "r", value, number, 0, value, 0);
                }
                if (value <= 10) {
                    dueSigns(check, "b", value, number, 0, 0, value);
                }
            }
        }
    }

    private static void dueSigns(Check check, String letter, int value, int number, int t, int r, int b) {
        String told = letter + " being " + value + ", ";
        check.due(told + "=" + number, holds(letter + "=" + number, t, r, b), value == number);
        check.due(told + "<" + number, holds(letter + "<" + number, t, r, b), value < number);
        check.due(told + ">" + number, holds(letter + ">" + number, t, r, b), value > number);
    }

    @Says(promise = 0, words = "r HANDS, no MAKERS of it, whose REVIEW of it is good")
    static void aReviewerBecomesAMaker(Check check) {
        SealLine x = Lines.readyToSeal(1);
        Lines.giveRule(x, "r=1");
        x.review(0, 0, true);
        check.due("the maker's own", x.why(10, 11, 0), 6);
        x.review(5, 0, true);
        check.due("another's", x.why(10, 11, 0), 0);
        x.source(5, 10L);
        check.due("who is a maker since", x.why(10, 11, 0), 6);
        SealLine y = Lines.withTwoFiles();
        y.ask(1);
        y.uses(0, 1);
        Lines.giveRule(y, "r>0");
        y.review(0, 1, true);
        check.due("a maker of what went in", y.why(10, 11, 0), 6);
        y.review(2, 1, true);
        check.due("another's of it", y.why(10, 11, 0), 0);
        y.source(2, 10L);
        check.due("who made what went in since", y.why(10, 11, 0), 6);
    }

    @Says(promise = 0, words = "Blanks (32) may stand between all these, not within numbers")
    static void blanksBetweenAllThese(Check check) {
        String[] pieces = {"(", "t", "=", "12", "&", "(", "r", "<", "3", ")", ")", "|", "b", ">", "0"};
        dueGood(check, String.join("", pieces), String.join(" ", pieces), String.join("  ", pieces));
        for (int at = 1; at < pieces.length; at++) {
            StringBuilder text = new StringBuilder();
            for (int i = 0; i < pieces.length; i++) {
                text.append(i == at ? "   " : "").append(pieces[i]);
            }
            dueGood(check, text.toString());
        }
        check.due("they change nothing", holds(String.join("  ", pieces), 11, 11, 0), false);
        check.due("they change nothing", holds(String.join("  ", pieces), 12, 2, 0), true);
    }

    @Says(promise = 0, words = "Blanks (32) may stand between all these, not within numbers")
    static void blanksWithinNumbers(Check check) {
        dueFault(check, "t=1 2", 4);
        dueFault(check, "t=1  2", 5);
        dueFault(check, "t= 1 2", 5);
        dueFault(check, "t=1 2 3", 4);
        dueFault(check, "t=12 3", 5);
        dueFault(check, "(t=1 0)", 5);
    }

    @Says(promise = 0, words = "Blanks (32)")
    static void noOtherBlanks(Check check) {
        for (char other : new char[] {9, 10, 13, 31, 33, 95, 128, 160, 255}) {
            dueFault(check, other + "t=1", 0);
            dueFault(check, "t" + other + "=1", 1);
            dueFault(check, "t=" + other + "1", 2);
            dueFault(check, "t=1" + other + "&r=1", 3);
            dueFault(check, "t=1&" + other + "r=1", 4);
        }
    }

    @Says(promise = 0, words = "at most eight ( within one another")
    static void eightWithinOneAnother(Check check) {
        String close = "))))))))";
        dueGood(check, EIGHT + "t=1" + close);
        dueGood(check, EIGHT + "t=1" + close + "&" + EIGHT + "r=1" + close + "|" + EIGHT + "b=1" + close);
        dueGood(check, EIGHT + "t=1)|(t=2" + close);
        dueGood(check, "(t=1)|(t=1)|(t=1)|(t=1)|(t=1)|(t=1)|(t=1)|(t=1)|(t=1)|(t=1)|(t=1)");
        check.due("they hold", holds(EIGHT + "t=1)|(t=2" + close, 2, 0, 0), true);
        check.due("they do not hold", holds(EIGHT + "t=1)|(t=2" + close, 3, 0, 0), false);
        check.due("parts at each depth", holds("(b=1|(b=1|(b=1|(b=1|(b=1|(b=1|(b=1|(r=1))))))))", 0, 1, 0), true);
        check.due("units at each depth", holds("(t=1&(t=1&(t=1&(t=1&(t=1&(t=1&(t=1&(r=1))))))))", 1, 0, 0), false);
    }

    @Says(promise = 0, words = "a third digit, a ninth ( are such")
    static void aNinthBracketOrAThirdDigit(Check check) {
        dueFault(check, EIGHT + "(", 8);
        dueFault(check, EIGHT + "(t=1)))))))))", 8);
        dueFault(check, EIGHT + "t=1&(", 12);
        dueFault(check, EIGHT + "t=1)|((", 14);
        dueFault(check, " ( ( ( ( ( ( ( ( (", 17);
        dueFault(check, EIGHT, 8);
        dueFault(check, "t=000", 4);
        dueFault(check, "t=1234", 4);
        dueFault(check, "t=1&(r<100)", 9);
    }

    @Says(promise = 0, words = "FAULT: the first byte at which no such can go on (the length, if they end too early)")
    static void theLengthIfTheyEndTooEarly(Check check) {
        String whole = "(t=1&(r<22|b>3))&t=4";
        for (int length = 0; length < whole.length(); length++) {
            boolean good = whole.substring(0, length).equals("(t=1&(r<22|b>3))");
            dueFault(check, whole.substring(0, length), good ? NONE : length);
        }
        dueGood(check, whole);
        dueFault(check, "", 0);
        dueFault(check, "t=1&  ", 6);
        dueFault(check, "(t=1 ", 5);
        dueFault(check, "t ", 2);
        dueFault(check, "t= ", 3);
        dueFault(check, "t=1&x|", 4);
    }

    /** All texts that can go on, up to six bytes, each with any one byte more. */
    @Says(promise = 0, words = "FAULT: the first byte at which no such can go on (the length, if they end too early)")
    static void everyShortText(Check check) {
        new Faults(check).goOnFrom("", 6);
    }

    /** Tells by other means than reading from left to right whether a text is a RULE, or can become one. */
    private static final class Faults {
        private static final int TEXTS_AN_OBJECT = 100;

        private final Check check;
        private SealLine x = new SealLine();
        private int texts = 0;

        Faults(Check check) {
            this.check = check;
        }

        void goOnFrom(String text, int more) {
            due(text, isRule(text) ? NONE : text.length());
            for (int next = 1; next < 256; next++) {
                String longer = text + (char) next;
                if (!canGoOn(longer)) {
                    due(longer, text.length());
                } else if (more > 0 && "t=1&|() ".indexOf(next) >= 0) {
                    goOnFrom(longer, more - 1);
                }
            }
        }

        private void due(String text, int want) {
            if (++texts % TEXTS_AN_OBJECT == 0) {
                x = new SealLine();
            }
            x.end(0);
            Lines.feedText(x, text);
            check.due("fault() of '" + text + "'", x.fault(), want);
        }

        private static boolean canGoOn(String text) {
            StringBuilder closing = new StringBuilder();
            for (int at = 0; at < text.length(); at++) {
                if (text.charAt(at) == '(') {
                    closing.append(')');
                } else if (text.charAt(at) == ')' && closing.length() > 0) {
                    closing.deleteCharAt(0);
                }
            }
            return isRule(text + closing) || isRule(text + "1" + closing) || isRule(text + "=1" + closing)
                || isRule(text + "t=1" + closing);
        }

        private static boolean isRule(String text) {
            if (text.indexOf('#') >= 0) {
                return false;
            }
            String left = text.replaceAll("[trb] *[=<>] *[0-9]{1,2}(?![0-9])", "#").replace(" ", "");
            String before = "";
            while (!left.equals(before)) {
                before = left;
                left = left.replace("(#)", "#").replace("#&#", "#").replace("#|#", "#");
            }
            return left.equals("#");
        }
    }

    @Says(promise = 0, words = "RULES 0, 1, .. (20 at most); the latest is in force")
    static void twentyRules(Check check) {
        SealLine x = Lines.readyToSeal(50);
        for (int rule = 0; rule < 20; rule++) {
            check.due("rule " + rule, Lines.giveRule(x, rule % 2 == 0 ? "t=0" : "t=1"), rule);
            check.due("by the latest", x.why(10, 11, 0), rule % 2 == 0 ? 0 : 6);
        }
        check.due("one more", Lines.giveRule(x, "t=0"), NONE);
        check.due("the last is in force still", x.why(10, 11, 0), 6);
        check.due("twenty", x.count(2), 20);
        x.tries(1, 0, true);
        x.seal(10, 11, 0);
        check.due("sealed by the last", x.sealed(0, 5), 19);
    }

    @Says(promise = 0, words = "ahead of the first one all is let")
    static void aheadOfTheFirstRule(Check check) {
        SealLine x = Lines.readyToSeal(5);
        Lines.feedText(x, "t>1");
        check.due("a tape is no rule", x.why(10, 11, 0), 0);
        x.tries(1, 0, false);
        x.review(1, 0, false);
        check.due("with none good", x.why(10, 11, 0), 0);
        x.end(1);
        x.rule();
        check.due("a fault is no rule", x.why(10, 11, 0), 0);
        check.due("all is let", x.least(), 3);
        x.seal(10, 11, 0);
        check.due("sealed by none", x.sealed(0, 5), NONE);
    }

    @Says(promise = 7, words = "Four bytes more come to the TAPE (the highest first; bytes of 0 are left out): "
        + "how many it has.")
    static void bytesOfZeroAreLeftOut(Check check) {
        SealLine x = new SealLine();
        check.due("four of 0", x.feed(0), 0);
        for (int bits = 0; bits < 16; bits++) {
            int word = 0;
            for (int i = 0; i < 4; i++) {
                word |= (bits >> i & 1) != 0 ? ' ' << 8 * i : 0;
            }
            x.end(0);
            check.due("bytes " + bits, x.feed(word), Integer.bitCount(bits));
        }
        x.end(0);
        check.due("t, =", x.feed('t' << 16 | '='), 2);
        check.due("3, 0, 0, blank", x.feed('3' << 24 | ' '), 4);
        check.due("the highest came first", x.fault(), NONE);
        x.end(0);
        check.due("all bits", x.feed(-1), 4);
        check.due("the highest bit alone", x.feed(Integer.MIN_VALUE), 5);
        x.end(0);
        x.feed('t' << 24 | '=' << 16 | '1' << 8 | 128);
        check.due("a byte of 128", x.fault(), 3);
    }

    private static SealLine withBytes(int many) {
        SealLine x = Lines.withTape("t=1");
        Lines.feedText(x, " ".repeat(many - 3));
        return x;
    }

    @Says(promise = 7, words = "NONE: more than 100.")
    static void upToAHundredBytes(Check check) {
        int[] words = {0, ' ', ' ' << 16 | ' ', ' ' << 24 | ' ' << 16 | ' ', 0x20202020};
        for (int before = 95; before <= 100; before++) {
            for (int more = 0; more <= 4; more++) {
                SealLine x = withBytes(before);
                boolean fits = before + more <= 100;
                check.due(more + " more to " + before, x.feed(words[more]), fits ? before + more : NONE);
                check.due("then", x.count(5), fits ? before + more : before);
                check.due("good as it was", x.fault(), NONE);
            }
        }
        SealLine x = withBytes(98);
        check.due("three more", x.feed('&' << 24 | 'r' << 8 | '='), NONE);
        check.due("none of them came", x.fault(), NONE);
        check.due("two more", x.feed('&' << 24 | 'r'), 100);
        check.due("both came", x.fault(), 100);
        x.end(99);
        check.due("behind an end()", x.feed(' '), 100);
    }

    @Says(promise = 7, words = "NONE: more than 100.")
    static void everyBitMakesAByte(Check check) {
        SealLine full = withBytes(100);
        SealLine x = withBytes(99);
        for (int bit = 0; bit < 32; bit++) {
            check.due("bit " + bit + " to 100", full.feed(1 << bit), NONE);
            check.due("bit " + bit + " to 99", x.feed(1 << bit), 100);
            x.end(99);
            check.due("two bytes to 99", x.feed(1 << bit | 1 << (bit + 8) % 32), NONE);
        }
        check.due("a hundred still", full.count(5), 100);
        check.due("all of them good", full.fault(), NONE);
        check.due("four bytes of 1 to 96", withBytes(96).feed(0x01010101), 100);
        check.due("four bytes of 1 to 97", withBytes(97).feed(0x01010101), NONE);
        check.due("four bytes of 128 to 96", withBytes(96).feed(0x80808080), 100);
        check.due("four bytes of 128 to 97", withBytes(97).feed(0x80808080), NONE);
    }

    @Says(promise = 7, words = "NONE: more than 100.")
    static void aRuleOfAHundredBytes(Check check) {
        SealLine x = new SealLine();
        Lines.feedText(x, "t>3|".repeat(24) + "t=12");
        check.due("a hundred", x.count(5), 100);
        check.due("no fault", x.fault(), NONE);
        check.due("a rule", x.rule(), 0);
        check.due("by its first parts", x.least(), 4);
        Lines.feedText(x, "t>3&".repeat(24) + "t=12");
        check.due("the next", x.rule(), 1);
        check.due("by its last unit", x.least(), 12);
        Lines.feedText(x, "t=1&".repeat(25));
        check.due("it ends too early", x.fault(), 100);
    }

    @Says(promise = 8, words = "The TAPE has its first n bytes alone. False: n.")
    static void endOfWhatIsNotThere(Check check) {
        SealLine empty = new SealLine();
        for (int n : Lines.outside(1)) {
            check.due("end(" + n + ") of none", empty.end(n), false);
        }
        check.due("end(0) of none", empty.end(0), true);
        SealLine x = Lines.withTape("t=1&r=2");
        for (int n : Lines.outside(8)) {
            check.due("end(" + n + ")", x.end(n), false);
            check.due("all stay", x.count(5), 7);
        }
        check.due("end() of all", x.end(7), true);
        check.due("no fault", x.fault(), NONE);
        check.due("end() of one less", x.end(6), true);
        check.due("a fault", x.fault(), 6);
        check.due("what is gone is gone", x.end(7), false);
        check.due("end(0)", x.end(0), true);
        check.due("empty", x.count(5), 0);
        SealLine full = withBytes(100);
        check.due("end(101)", full.end(101), false);
        check.due("end(100)", full.end(100), true);
    }

    @Says(promise = 8, words = "The TAPE has its first n bytes alone.")
    static void feedGoesOnBehindTheFirst(Check check) {
        SealLine x = Lines.withTape("t=9|r=2");
        x.end(2);
        Lines.feedText(x, "4");
        check.due("three bytes", x.count(5), 3);
        check.due("t=4", x.rule(), 0);
        check.due("not t=9, not t=49", x.least(), 4);
    }

    @Says(promise = 9, words = "The FAULT of the TAPE; NONE.")
    static void faultOfTheTapeAsItIs(Check check) {
        SealLine x = new SealLine();
        check.due("of none", x.fault(), 0);
        Lines.feedText(x, "t=12");
        check.due("of a good one", x.fault(), NONE);
        check.due("again", x.fault(), NONE);
        Lines.feedText(x, "3");
        check.due("of one that goes on", x.fault(), 4);
        x.end(4);
        check.due("of one that was cut", x.fault(), NONE);
        check.due("all is there", x.count(5), 4);
        x.rule();
        check.due("of an empty one", x.fault(), 0);
        check.due("it makes no rule", x.count(2), 1);
    }

    @Says(promise = 10, words = "The TAPE (empty then) is the next RULE: its number.")
    static void theTapeIsEmptyThen(Check check) {
        SealLine x = Lines.withTape("t=5");
        check.due("rule()", x.rule(), 0);
        check.due("empty", x.count(5), 0);
        check.due("again", x.rule(), NONE);
        check.due("one rule", x.count(2), 1);
        check.due("it is in force", x.least(), 5);
        Lines.feedText(x, "t=6");
        check.due("the next", x.rule(), 1);
        check.due("it alone", x.least(), 6);
    }

    @Says(promise = 10, words = "NONE: a FAULT, there are 20.")
    static void ruleWithAFault(Check check) {
        SealLine x = Lines.withRule("t=7");
        for (String wrong : new String[] {"", "t", "t=", "t=1&", "(t=1", "t=1)", "t=123", "x"}) {
            x.end(0);
            Lines.feedText(x, wrong);
            check.due("rule() of '" + wrong + "'", x.rule(), NONE);
            check.due("the tape stays", x.count(5), wrong.length());
        }
        check.due("one rule", x.count(2), 1);
        check.due("it is in force", x.least(), 7);
        x.end(0);
        check.due("no number was lost", Lines.giveRule(x, "t=8"), 1);
    }

    @Says(promise = 10, words = "NONE: a FAULT, there are 20.")
    static void ruleBehindTwenty(Check check) {
        SealLine x = new SealLine();
        for (int rule = 0; rule < 20; rule++) {
            check.due("rule " + rule, Lines.giveRule(x, "t=" + (rule == 19 ? 9 : 8)), rule);
        }
        Lines.feedText(x, "t=4");
        check.due("one more", x.rule(), NONE);
        check.due("the tape stays", x.count(5), 3);
        check.due("it has no fault", x.fault(), NONE);
        check.due("twenty", x.count(2), 20);
        check.due("the last is in force", x.least(), 9);
        x.end(2);
        check.due("one with a fault", x.rule(), NONE);
    }

    @Says(promise = 0, words = "n bad HANDS (of twelve; all others do nothing)")
    static void noMoreThanTwelve(Check check) {
        dueJudged(check, "t=12", 12, 1);
        dueJudged(check, "t=13", NONE, NONE);
        dueJudged(check, "t>11", 12, 1);
        dueJudged(check, "t>12", NONE, NONE);
        dueJudged(check, "r=11", 12, 1);
        dueJudged(check, "r=12", NONE, NONE);
        dueJudged(check, "b=10", 12, 10);
        dueJudged(check, "b=11", NONE, NONE);
        dueJudged(check, "b=6&r=6", 12, 6);
        dueJudged(check, "b=6&r=7", NONE, NONE);
        dueJudged(check, "b=7&r=6", NONE, NONE);
    }

    @Says(promise = 0, words = "x MAKERS among them (1 .. n), n - x being 2 or more")
    static void oneMakerAndTwoOthersAtLeast(Check check) {
        check.due("without a rule", new SealLine().least(), 3);
        check.due("without a rule", new SealLine().makers(), 1);
        dueJudged(check, "t=0&r=0&b=0", 3, 1);
        dueJudged(check, "b=1", 3, 1);
        dueJudged(check, "b=2&r=0", 4, 2);
        dueJudged(check, "r=2", 3, 1);
        dueJudged(check, "r=1&b=3", 5, 3);
    }

    @Says(promise = 0, words = "t from 0 to n, r from 0 to n - x, b from 0 to x, by which it holds")
    static void everyTAndRAndB(Check check) {
        SealLine x = new SealLine();
        for (int t = 0; t <= 13; t++) {
            for (int r = 0; r <= 12; r++) {
                for (int b = 0; b <= 11; b++) {
                    x = x.count(2) == 20 ? new SealLine() : x;
                    Lines.giveRule(x, "t=" + t + "&r=" + r + "&b=" + b);
                    int n = Math.max(t, Math.max(1, b) + Math.max(2, r));
                    check.due("least() of " + t + ", " + r + ", " + b, x.least(), n > 12 ? NONE : n);
                    check.due("makers() of " + t + ", " + r + ", " + b, x.makers(), n > 12 ? NONE : Math.max(1, b));
                }
            }
        }
    }

    @Says(promise = 0, words = "Told are the least such n, and for it the least x.")
    static void theLeastOfSeveral(Check check) {
        dueJudged(check, "b=2|r=3", 4, 1);
        dueJudged(check, "r=3|b=2", 4, 1);
        dueJudged(check, "b=3|t=5", 5, 1);
        dueJudged(check, "b=3|t=6", 5, 3);
        dueJudged(check, "t=6|b=3", 5, 3);
        dueJudged(check, "b=9|t=12", 11, 9);
        dueJudged(check, "b=10|t=12", 12, 1);
        dueJudged(check, "b>1", 4, 2);
        dueJudged(check, "r>2&b>1|t>6", 5, 2);
    }

    @Says(promise = 24, words = "NONE: no set of HANDS.")
    static void leastOfARuleThatCannotHold(Check check) {
        for (String never : new String[] {"t<0", "r<0", "b<0", "t=1&t=2", "t>99", "r=99", "b=12&t=3", "t<3&t>2"}) {
            check.due("least() of " + never, Lines.withRule(never).least(), NONE);
        }
        SealLine x = Lines.withRule("t<0");
        check.due("none", x.least(), NONE);
        Lines.feedText(x, "t=9");
        check.due("while a tape is fed", x.least(), NONE);
        x.rule();
        check.due("by the next", x.least(), 9);
        Lines.giveRule(x, "t<0");
        check.due("none again", x.least(), NONE);
    }

    @Says(promise = 25, words = "Its least x. NONE likewise.")
    static void makersOfARuleThatCannotHold(Check check) {
        for (String never : new String[] {"t<0", "r<0", "b<0", "t=1&t=2", "t>99", "r=99", "b=12&t=3", "t<3&t>2"}) {
            check.due("makers() of " + never, Lines.withRule(never).makers(), NONE);
        }
        SealLine x = Lines.withRule("b=11");
        check.due("none", x.makers(), NONE);
        Lines.giveRule(x, "b=10");
        check.due("by the next", x.makers(), 10);
        Lines.giveRule(x, "b=11");
        check.due("none again", x.makers(), NONE);
    }
}
