import java.util.Random;

/** Long runs of calls that were drawn once for all, on SealLine and on the plain model beside it. */
public final class AgainstPlainTest {
    private static final int CALLS = 512;
    private static final int[] ODD = {
        -1, -2, 0, 1, 3, 4, 5, 6, 7, 8, 9, 11, 12, 13, 19, 20, 50, 99, 100, 101, 399, 400, 401, 1000, 1001,
        Integer.MAX_VALUE, Integer.MIN_VALUE, Integer.MIN_VALUE + 1, 1 << 30
    };

    /* How often each change is made, a row for each kind of run:
       source, build, tries, review, feed, end, rule, ask, skip, seal, uses, finish, lose, recall, a whole rule. */
    private static final int[][] WEIGHTS = {
        {10, 20, 12, 12, 1, 1, 1, 10, 2, 12, 3, 1, 1, 2, 1},
        {20, 60, 3, 3, 0, 0, 0, 1, 0, 1, 1, 0, 0, 1, 0},
        {4, 6, 6, 6, 6, 5, 6, 4, 1, 6, 2, 0, 0, 0, 8},
        {8, 12, 8, 8, 0, 0, 0, 24, 2, 40, 5, 1, 2, 1, 1},
        {12, 20, 1, 1, 0, 0, 0, 10, 1, 16, 4, 0, 0, 20, 0},
        {60, 100, 40, 40, 0, 0, 0, 4, 0, 4, 2, 0, 0, 1, 0},
    };
    /* How many of a hundred calls only ask, for each kind of run. */
    private static final int[] ASKING = {40, 40, 40, 40, 40, 8};

    private final Check check;
    private final Random random;
    private final int kind;
    private final SealLine line = new SealLine();
    private final PlainLine plain = new PlainLine();
    private int calls = 0;

    private AgainstPlainTest(Check check, int seed) {
        this.check = check;
        this.random = new Random(seed);
        this.kind = seed % WEIGHTS.length;
    }

    public static void main(String[] args) {
        Check check = new Check("AgainstPlainTest");
        for (int seed = 0; seed < 1500; seed++) {
            new AgainstPlainTest(check, seed).run();
        }
        check.finish();
    }

    /** A whole rule takes many calls: towards the end of an object's calls they only ask. */
    private void run() {
        while (calls < CALLS) {
            if (calls > CALLS - 40 || random.nextInt(100) < ASKING[kind]) {
                askOne();
            } else {
                changeOne();
            }
        }
    }

    private void due(String call, long got, long want) {
        calls++;
        check.due("kind " + kind + ", call " + calls + ": " + call, got, want);
    }

    private int below(int many) {
        return many <= 0 ? 0 : random.nextInt(many);
    }

    /** Mostly one of 0 .. many - 1, at times what is at the edge or far out. */
    private int number(int many) {
        int way = random.nextInt(40);
        if (way == 0) {
            return ODD[random.nextInt(ODD.length)];
        }
        return way == 1 ? many - below(3) + 1 : below(many);
    }

    /** HANDS come in two sorts, so that there are enough who made nothing. */
    private int maker() {
        return random.nextInt(3) == 0 ? number(12) : number(5);
    }

    private int file() {
        int many = plain.count(1);
        return random.nextInt(3) == 0 ? number(many) : many - 1 - below(Math.min(many, 12));
    }

    private long freshHash() {
        return random.nextInt(4) == 0 ? random.nextInt(5) - 2 : random.nextLong();
    }

    private void changeOne() {
        int[] weights = WEIGHTS[kind];
        int sum = 0;
        for (int weight : weights) {
            sum += weight;
        }
        int left = random.nextInt(sum);
        int change = 0;
        while (left >= weights[change]) {
            left -= weights[change];
            change++;
        }
        make(change);
    }

    private void make(int change) {
        switch (change) {
            case 0 -> source();
            case 1 -> build();
            case 2 -> tries();
            case 3 -> review();
            case 4 -> feed(random.nextInt(4) == 0 ? random.nextInt() : word(RuleTexts.piece(random), 0));
            case 5 -> end();
            case 6 -> due("rule()", line.rule(), plain.rule());
            case 7 -> ask();
            case 8 -> due("skip()", line.skip(), plain.skip());
            case 9 -> seal();
            case 10 -> uses();
            case 11 -> finish();
            case 12 -> lose();
            case 13 -> recall();
            default -> wholeRule();
        }
    }

    private void source() {
        int hand = maker();
        long hash = random.nextInt(4) == 0 ? plain.hash(file()) : freshHash();
        due("source(" + hand + ", " + hash + ")", line.source(hand, hash), plain.source(hand, hash));
    }

    private void build() {
        int hand = maker();
        int tool = number(6);
        int a = file();
        int b = random.nextInt(3) == 0 ? -1 : file();
        int c = random.nextInt(3) == 0 || b == -1 && random.nextInt(20) != 0 ? -1 : file();
        int way = random.nextInt(8);
        long hash = way == 0 ? plain.hash(file()) : way == 1 ? freshHash() : plain.mix(tool, a, b, c);
        due("build(" + hand + ", " + tool + ", " + a + ", " + b + ", " + c + ", " + hash + ")",
            line.build(hand, tool, a, b, c, hash), plain.build(hand, tool, a, b, c, hash));
    }

    private void tries() {
        int hand = number(12);
        int file = file();
        boolean good = random.nextInt(4) != 0;
        due("tries(" + hand + ", " + file + ", " + good + ")",
            line.tries(hand, file, good), plain.tries(hand, file, good));
    }

    private void review() {
        int hand = number(12);
        int file = file();
        boolean good = random.nextInt(4) != 0;
        due("review(" + hand + ", " + file + ", " + good + ")",
            line.review(hand, file, good), plain.review(hand, file, good));
    }

    private void feed(int bytes) {
        due("feed(" + bytes + ")", line.feed(bytes), plain.feed(bytes));
    }

    private void end() {
        int n = random.nextInt(2) == 0 ? 0 : number(plain.count(5) + 1);
        due("end(" + n + ")", line.end(n) ? 1 : 0, plain.end(n) ? 1 : 0);
    }

    private void ask() {
        int file = file();
        due("ask(" + file + ")", line.ask(file), plain.ask(file));
    }

    private void seal() {
        int one = 11 - maker();
        int other = 11 - maker();
        int key = number(4);
        String told = "(" + one + ", " + other + ", " + key + ")";
        due("why" + told, line.why(one, other, key), plain.why(one, other, key));
        due("seal" + told, line.seal(one, other, key), plain.seal(one, other, key));
    }

    private void uses() {
        int key = number(4);
        int many = random.nextInt(3) == 0 ? number(1001) : number(6);
        due("uses(" + key + ", " + many + ")", line.uses(key, many), plain.uses(key, many));
    }

    private void finish() {
        int key = number(4);
        due("finish(" + key + ")", line.finish(key) ? 1 : 0, plain.finish(key) ? 1 : 0);
    }

    private void lose() {
        int key = number(4);
        int since = number(plain.count(0) + 1);
        due("lose(" + key + ", " + since + ")", line.lose(key, since), plain.lose(key, since));
    }

    private void recall() {
        int sort = number(3);
        int whose = sort == 0 ? file() : sort == 1 ? number(6) : number(12);
        int since = random.nextInt(2) == 0 ? number(401) : plain.count(0) - below(10) + 5;
        due("recall(" + sort + ", " + whose + ", " + since + ")",
            line.recall(sort, whose, since), plain.recall(sort, whose, since));
    }

    private void wholeRule() {
        due("end(0)", line.end(0) ? 1 : 0, plain.end(0) ? 1 : 0);
        String text = RuleTexts.whole(random);
        for (int at = 0; at < text.length(); at += 4) {
            feed(word(text, at));
        }
        due("fault() of " + text, line.fault(), plain.fault());
        due("rule() of " + text, line.rule(), plain.rule());
        due("least() of " + text, line.least(), plain.least());
        due("makers() of " + text, line.makers(), plain.makers());
    }

    private static int word(String text, int from) {
        int word = 0;
        for (int at = from; at < from + 4; at++) {
            word = word << 8 | (at < text.length() ? text.charAt(at) & 255 : 0);
        }
        return word;
    }

    private void askOne() {
        int i = number(20);
        int file = file();
        int what = number(10);
        switch (random.nextInt(13)) {
            case 0 -> askMix();
            case 1 -> due("fault()", line.fault(), plain.fault());
            case 2, 3, 4 -> due("file(" + file + ", " + what + ")", line.file(file, what), plain.file(file, what));
            case 5 -> due("hash(" + file + ")", line.hash(file), plain.hash(file));
            case 6 -> askFind(file);
            case 7 -> askSealed(what);
            case 8 -> askNote(what);
            case 9 -> due("proof(" + file + ", " + i / 2 + ")", line.proof(file, i / 2), plain.proof(file, i / 2));
            case 10 -> due("called(" + i + ")", line.called(i), plain.called(i));
            case 11 -> due("count(" + what + ")", line.count(what), plain.count(what));
            default -> askKey();
        }
    }

    private void askMix() {
        int tool = number(6);
        int a = file();
        int b = random.nextInt(3) == 0 ? -1 : file();
        int c = random.nextInt(2) == 0 ? -1 : file();
        due("mix(" + tool + ", " + a + ", " + b + ", " + c + ")", line.mix(tool, a, b, c), plain.mix(tool, a, b, c));
    }

    private void askFind(int file) {
        long hash = random.nextInt(3) == 0 ? freshHash() : plain.hash(file);
        due("find(" + hash + ")", line.find(hash), plain.find(hash));
    }

    private void askSealed(int what) {
        int seal = number(plain.count(3));
        due("sealed(" + seal + ", " + what + ")", line.sealed(seal, what), plain.sealed(seal, what));
    }

    private void askNote(int what) {
        int note = number(plain.count(0));
        due("note(" + note + ", " + what + ")", line.note(note, what), plain.note(note, what));
    }

    private void askKey() {
        int key = number(4);
        int what = number(4);
        due("key(" + key + ", " + what + ")", line.key(key, what), plain.key(key, what));
    }
}
