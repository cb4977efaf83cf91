import java.util.Arrays;

/** A line from desk to seal. What each method promises is told in ../shared/DOC.md. */
public final class SealLine {
    public static final int NONE = -1;

    private static final int HANDS = 12;
    private static final int TOOLS = 6;
    private static final int KEYS = 4;
    private static final int MOST_NOTES = 400;
    private static final int MOST_FILES = 100;
    private static final int MOST_BYTES = 100;
    private static final int MOST_RULES = 20;
    private static final int MOST_RECALLS = 50;
    private static final int MOST_USES = 1000000;
    private static final int MOST_USES_TOLD = 1000;

    private static final long MIX_TIMES = 6364136223846793005L;
    private static final long MIX_AND = 1442695040888963407L;

    /* The sorts of NOTES, as note() tells them. */
    private static final int SOURCE = 0;
    private static final int BUILD = 1;
    private static final int TRY = 2;
    private static final int REVIEW = 3;
    private static final int SEAL = 4;

    /* The cells of a NOTE, in the order in which note() tells them. */
    private static final int NOTE_SORT = 0;
    private static final int NOTE_FILE = 1;
    private static final int NOTE_HAND = 2;
    private static final int NOTE_TOOL = 3;
    private static final int NOTE_A = 4;
    private static final int NOTE_B = 5;
    private static final int NOTE_C = 6;
    private static final int NOTE_GOOD = 7;
    private static final int NOTE_CELLS = 8;

    /* The cells of a SEAL, in the order in which sealed() tells them. */
    private static final int SEAL_FILE = 0;
    private static final int SEAL_KEY = 1;
    private static final int SEAL_TICK = 2;
    private static final int SEAL_ONE = 3;
    private static final int SEAL_OTHER = 4;
    private static final int SEAL_RULE = 5;
    private static final int SEAL_CELLS = 6;
    private static final int SEAL_STANDS = 6;

    private final Table notes = new Table(MOST_NOTES, NOTE_CELLS);
    private final Table seals = new Table(MOST_NOTES, SEAL_CELLS);
    private final Shelf shelf = new Shelf();
    private final Proof proofs = new Proof();
    private final Recalls recalls = new Recalls();
    private final Tape tape = new Tape();
    private final Queue queue = new Queue();
    private final Keys keys = new Keys();
    private final Judging judging = new Judging();
    private Rule inForce = new Rule(new int[0]);
    private int rules = 0;

    public SealLine() {
    }

    public int source(int hand, long hash) {
        if (!isHand(hand) || notes.isFull()) {
            return NONE;
        }
        int file = shelf.numberOrNew(hash);
        if (file == NONE) {
            return NONE;
        }
        int note = addNote(SOURCE, file, hand);
        shelf.addMaker(file, hand);
        settle(note);
        return file;
    }

    public int build(int hand, int tool, int a, int b, int c, long hash) {
        if (!isHand(hand) || !isTool(tool) || !areInputs(a, b, c) || notes.isFull()) {
            return NONE;
        }
        int there = shelf.numberOf(hash);
        if (there != NONE && isInRowOfOne(there, a, b, c)) {
            return NONE;
        }
        int file = shelf.numberOrNew(hash);
        if (file == NONE) {
            return NONE;
        }
        boolean meets = hash == mixed(tool, a, b, c);
        int note = addNote(BUILD, file, hand);
        notes.set(note, NOTE_TOOL, tool);
        notes.set(note, NOTE_A, a);
        notes.set(note, NOTE_B, b);
        notes.set(note, NOTE_C, c);
        notes.set(note, NOTE_GOOD, bit(meets));
        shelf.addMaker(file, hand);
        if (meets) {
            shelf.addBuilder(file, hand);
        }
        shelf.addInput(file, a);
        shelf.addInput(file, b);
        shelf.addInput(file, c);
        settle(note);
        return file;
    }

    public long mix(int tool, int a, int b, int c) {
        return isTool(tool) && areInputs(a, b, c) ? mixed(tool, a, b, c) : 0L;
    }

    public int tries(int hand, int file, boolean good) {
        int note = addSaying(TRY, hand, file, good);
        if (note != NONE) {
            shelf.setTry(file, hand, good);
        }
        return note;
    }

    public int review(int hand, int file, boolean good) {
        int note = addSaying(REVIEW, hand, file, good);
        if (note != NONE) {
            shelf.setReview(file, hand, good);
        }
        return note;
    }

    public int feed(int bytes) {
        return tape.add(bytes);
    }

    public boolean end(int n) {
        return tape.cut(n);
    }

    public int fault() {
        return tape.firstFault();
    }

    public int rule() {
        if (rules >= MOST_RULES || tape.firstFault() != NONE) {
            return NONE;
        }
        inForce = new Rule(tape.readSteps());
        judging.forget();
        tape.cut(0);
        rules++;
        return rules - 1;
    }

    public int ask(int file) {
        return shelf.has(file) ? queue.add(file) : NONE;
    }

    public int skip() {
        return queue.removeFirst();
    }

    public int seal(int one, int other, int key) {
        if (refusal(one, other, key) != 0) {
            return NONE;
        }
        int file = queue.removeFirst();
        int tick = addNote(SEAL, file, one);
        int number = seals.addRow();
        seals.set(number, SEAL_FILE, file);
        seals.set(number, SEAL_KEY, key);
        seals.set(number, SEAL_TICK, tick);
        seals.set(number, SEAL_ONE, one);
        seals.set(number, SEAL_OTHER, other);
        seals.set(number, SEAL_RULE, rules - 1);
        keys.useOnce(key);
        return number;
    }

    public int why(int one, int other, int key) {
        return refusal(one, other, key);
    }

    public int uses(int key, int many) {
        return keys.addUses(key, many);
    }

    public boolean finish(int key) {
        return keys.endOne(key);
    }

    public int lose(int key, int since) {
        if (since < 0 || since > notes.size() || !keys.loseOne(key, since)) {
            return NONE;
        }
        int many = 0;
        for (int number = 0; number < seals.size(); number++) {
            if (seals.cell(number, SEAL_KEY) == key && seals.cell(number, SEAL_TICK) >= since) {
                many++;
            }
        }
        return many;
    }

    public int recall(int sort, int whose, int since) {
        boolean done = sort == 0
            ? shelf.has(whose) && recalls.addFile(whose)
            : recalls.addSince(sort, whose, since, notes);
        return done ? manyCalledBack() : NONE;
    }

    public int file(int file, int what) {
        if (!shelf.has(file)) {
            return NONE;
        }
        switch (what) {
            case 0: return bit(shelf.isClean(file));
            case 1: return bit(isCalledBack(file));
            case 2: return shelf.goodTries(file);
            case 3: return shelf.goodReviews(file);
            case 4: return shelf.goodBuilders(file);
            case 5: return shelf.rowSize(file);
            case 6: return shelf.makersOf(file);
            case 7: return queue.placeOf(file);
            case 8: return manyStanding(file);
            default: return NONE;
        }
    }

    public long hash(int file) {
        return shelf.hashOf(file);
    }

    public int find(long hash) {
        return shelf.numberOf(hash);
    }

    public int sealed(int seal, int what) {
        if (what == SEAL_STANDS && seal >= 0 && seal < seals.size()) {
            return bit(stands(seal));
        }
        return seals.cell(seal, what);
    }

    public int note(int note, int what) {
        return notes.cell(note, what);
    }

    public int least() {
        return judging.fewestHands(inForce);
    }

    public int makers() {
        return judging.fewestMakers(inForce);
    }

    public int proof(int file, int i) {
        return shelf.isClean(file) ? proofs.noteAt(notes, shelf, file, i) : NONE;
    }

    public int called(int i) {
        int left = i;
        for (int file = 0; file < shelf.size() && left >= 0; file++) {
            if (isCalledBack(file)) {
                if (left == 0) {
                    return file;
                }
                left--;
            }
        }
        return NONE;
    }

    public int count(int what) {
        switch (what) {
            case 0: return notes.size();
            case 1: return shelf.size();
            case 2: return rules;
            case 3: return seals.size();
            case 4: return queue.size();
            case 5: return tape.size();
            case 6: return manyStanding(NONE);
            case 7: return manyCalledBack();
            case 8: return queue.first();
            default: return NONE;
        }
    }

    public int key(int key, int what) {
        return keys.tell(key, what);
    }

    private static int bit(boolean yes) {
        return yes ? 1 : 0;
    }

    private static boolean isHand(int hand) {
        return hand >= 0 && hand < HANDS;
    }

    private static boolean isTool(int tool) {
        return tool >= 0 && tool < TOOLS;
    }

    private boolean areInputs(int a, int b, int c) {
        if (!shelf.has(a)) {
            return false;
        }
        if (b == NONE) {
            return c == NONE;
        }
        return shelf.has(b) && (c == NONE || shelf.has(c));
    }

    private boolean isInRowOfOne(int file, int a, int b, int c) {
        return shelf.rowHas(a, file) || shelf.rowHas(b, file) || shelf.rowHas(c, file);
    }

    private long mixed(int tool, int a, int b, int c) {
        long x = stirred(tool + 1L, a);
        if (b != NONE) {
            x = stirred(x, b);
        }
        if (c != NONE) {
            x = stirred(x, c);
        }
        return x;
    }

    private long stirred(long x, int file) {
        return (x ^ shelf.hashOf(file)) * MIX_TIMES + MIX_AND;
    }

    private int addNote(int sort, int file, int hand) {
        int note = notes.addRow();
        notes.set(note, NOTE_SORT, sort);
        notes.set(note, NOTE_FILE, file);
        notes.set(note, NOTE_HAND, hand);
        return note;
    }

    private int addSaying(int sort, int hand, int file, boolean good) {
        if (!isHand(hand) || !shelf.has(file) || notes.isFull()) {
            return NONE;
        }
        int note = addNote(sort, file, hand);
        notes.set(note, NOTE_GOOD, bit(good));
        return note;
    }

    /** A SOURCE or BUILD may make FILES CLEAN, and may fall under a call back that came ahead of it. */
    private void settle(int note) {
        shelf.cleanBy(notes, note);
        recalls.look(notes, note);
    }

    private int refusal(int one, int other, int key) {
        int file = queue.first();
        if (file == NONE) {
            return 1;
        }
        if (!isHand(one) || !isHand(other) || one == other) {
            return 2;
        }
        if ((shelf.makersOf(file) & (1 << one | 1 << other)) != 0) {
            return 3;
        }
        if (!keys.canSeal(key)) {
            return 4;
        }
        if (!shelf.isClean(file)) {
            return 5;
        }
        if (!ruleHolds(file)) {
            return 6;
        }
        if (isCalledBack(file)) {
            return 7;
        }
        return notes.isFull() ? 8 : 0;
    }

    private boolean ruleHolds(int file) {
        int tries = inForce.holdingTries(shelf.goodReviews(file), shelf.goodBuilders(file));
        return (tries >>> shelf.goodTries(file) & 1) != 0;
    }

    private boolean isCalledBack(int file) {
        return shelf.rowMeets(file, recalls.marked());
    }

    private int manyCalledBack() {
        int many = 0;
        for (int file = 0; file < shelf.size(); file++) {
            many += bit(isCalledBack(file));
        }
        return many;
    }

    private boolean stands(int number) {
        int lostSince = keys.lostSince(seals.cell(number, SEAL_KEY));
        boolean lost = lostSince != NONE && seals.cell(number, SEAL_TICK) >= lostSince;
        return !lost && !isCalledBack(seals.cell(number, SEAL_FILE));
    }

    /** How many SEALS of a FILE STAND; of all FILES if it is NONE. */
    private int manyStanding(int file) {
        int many = 0;
        for (int number = 0; number < seals.size(); number++) {
            if ((file == NONE || seals.cell(number, SEAL_FILE) == file) && stands(number)) {
                many++;
            }
        }
        return many;
    }

    /** A set of FILES: two words of bits, as a hundred do not go into one. */
    private static final class FileSet {
        private long low = 0L;
        private long high = 0L;

        void empty() {
            low = 0L;
            high = 0L;
        }

        void add(int file) {
            if (file >= 0 && file < 64) {
                low |= 1L << file;
            } else if (file >= 64 && file < MOST_FILES) {
                high |= 1L << (file - 64);
            }
        }

        void addAll(FileSet other) {
            low |= other.low;
            high |= other.high;
        }

        boolean has(int file) {
            if (file < 0 || file >= MOST_FILES) {
                return false;
            }
            return file < 64 ? (low >>> file & 1L) != 0L : (high >>> (file - 64) & 1L) != 0L;
        }

        boolean meets(FileSet other) {
            return (low & other.low) != 0L || (high & other.high) != 0L;
        }

        int size() {
            return Long.bitCount(low) + Long.bitCount(high);
        }
    }

    /** Rows of cells, numbered as they come; a cell that was not set is NONE. */
    private static final class Table {
        private final int most;
        private final int width;
        private final int[] cells;
        private int many = 0;

        Table(int most, int width) {
            this.most = Math.max(0, most);
            this.width = Math.max(0, width);
            this.cells = new int[this.most * this.width];
            Arrays.fill(cells, NONE);
        }

        int size() {
            return many;
        }

        boolean isFull() {
            return many >= most;
        }

        int addRow() {
            if (isFull()) {
                return NONE;
            }
            many++;
            return many - 1;
        }

        int cell(int row, int what) {
            return isCell(row, what) ? cells[row * width + what] : NONE;
        }

        void set(int row, int what, int value) {
            if (isCell(row, what)) {
                cells[row * width + what] = value;
            }
        }

        private boolean isCell(int row, int what) {
            return row >= 0 && row < many && what >= 0 && what < width;
        }
    }

    /** The FILES with what NOTES say of them. HANDS are kept as bits. */
    private static final class Shelf {
        private final long[] hashes = new long[MOST_FILES];
        private final FileSet[] rows = new FileSet[MOST_FILES];
        private final int[] ownMakers = new int[MOST_FILES];
        private final int[] builders = new int[MOST_FILES];
        private final int[] tryers = new int[MOST_FILES];
        private final int[] reviewers = new int[MOST_FILES];
        private final FileSet clean = new FileSet();
        private int many = 0;

        Shelf() {
            for (int file = 0; file < MOST_FILES; file++) {
                rows[file] = new FileSet();
            }
        }

        int size() {
            return many;
        }

        boolean has(int file) {
            return file >= 0 && file < many;
        }

        long hashOf(int file) {
            return has(file) ? hashes[file] : 0L;
        }

        int numberOf(long hash) {
            for (int file = 0; file < many; file++) {
                if (hashes[file] == hash) {
                    return file;
                }
            }
            return NONE;
        }

        int numberOrNew(long hash) {
            int there = numberOf(hash);
            if (there != NONE || many >= MOST_FILES) {
                return there;
            }
            int file = many;
            many++;
            hashes[file] = hash;
            rows[file].add(file);
            return file;
        }

        void addMaker(int file, int hand) {
            setHand(ownMakers, file, hand, true);
        }

        void addBuilder(int file, int hand) {
            setHand(builders, file, hand, true);
        }

        void setTry(int file, int hand, boolean good) {
            setHand(tryers, file, hand, good);
        }

        void setReview(int file, int hand, boolean good) {
            setHand(reviewers, file, hand, good);
        }

        private void setHand(int[] hands, int file, int hand, boolean in) {
            if (has(file) && isHand(hand)) {
                hands[file] = in ? hands[file] | 1 << hand : hands[file] & ~(1 << hand);
            }
        }

        /** All ROWS that hold the FILE grow by the input's ROW, so that no ROW is ever walked. */
        void addInput(int file, int input) {
            if (!has(input)) {
                return;
            }
            for (int i = 0; i < many; i++) {
                if (rows[i].has(file)) {
                    rows[i].addAll(rows[input]);
                }
            }
        }

        boolean rowHas(int file, int other) {
            return has(file) && rows[file].has(other);
        }

        boolean rowMeets(int file, FileSet others) {
            return has(file) && rows[file].meets(others);
        }

        int rowSize(int file) {
            return has(file) ? rows[file].size() : 0;
        }

        int makersOf(int file) {
            int hands = 0;
            for (int i = 0; i < many; i++) {
                if (rowHas(file, i)) {
                    hands |= ownMakers[i];
                }
            }
            return hands;
        }

        int goodTries(int file) {
            return has(file) ? Integer.bitCount(tryers[file]) : 0;
        }

        int goodReviews(int file) {
            return has(file) ? Integer.bitCount(reviewers[file] & ~makersOf(file)) : 0;
        }

        int goodBuilders(int file) {
            return has(file) ? Integer.bitCount(builders[file]) : 0;
        }

        boolean isClean(int file) {
            return clean.has(file);
        }

        /** Whether a NOTE is a SOURCE, or a BUILD that MEETS of CLEAN FILES alone. */
        boolean isGround(Table notes, int note) {
            int sort = notes.cell(note, NOTE_SORT);
            if (sort != BUILD) {
                return sort == SOURCE;
            }
            return notes.cell(note, NOTE_GOOD) == 1
                && isCleanInput(notes.cell(note, NOTE_A))
                && isCleanInput(notes.cell(note, NOTE_B))
                && isCleanInput(notes.cell(note, NOTE_C));
        }

        private boolean isCleanInput(int input) {
            return input == NONE || clean.has(input);
        }

        void cleanBy(Table notes, int note) {
            boolean more = addClean(notes, note);
            // each pass but the last makes a FILE CLEAN, and none ceases to be so
            for (int pass = 0; pass < MOST_FILES && more; pass++) {
                more = false;
                for (int i = 0; i < notes.size(); i++) {
                    if (addClean(notes, i)) {
                        more = true;
                    }
                }
            }
        }

        private boolean addClean(Table notes, int note) {
            int file = notes.cell(note, NOTE_FILE);
            if (!has(file) || isClean(file) || !isGround(notes, note)) {
                return false;
            }
            clean.add(file);
            return true;
        }
    }

    /** The PROOF of a FILE; its rows are made once and filled anew for each question. */
    private static final class Proof {
        private final int[] grounds = new int[MOST_FILES];
        private final int[] waiting = new int[MOST_FILES];
        private final FileSet wanted = new FileSet();
        private int manyWaiting = 0;

        int noteAt(Table notes, Shelf shelf, int file, int i) {
            findGrounds(notes, shelf);
            gather(notes, file);
            int left = i;
            for (int note = 0; note < notes.size() && left >= 0; note++) {
                if (isPart(notes, note)) {
                    if (left == 0) {
                        return note;
                    }
                    left--;
                }
            }
            return NONE;
        }

        private void findGrounds(Table notes, Shelf shelf) {
            Arrays.fill(grounds, NONE);
            for (int note = 0; note < notes.size(); note++) {
                int file = notes.cell(note, NOTE_FILE);
                if (shelf.has(file) && grounds[file] == NONE && shelf.isGround(notes, note)) {
                    grounds[file] = note;
                }
            }
        }

        private void gather(Table notes, int file) {
            wanted.empty();
            manyWaiting = 0;
            want(file);
            for (int i = 0; i < MOST_FILES && i < manyWaiting; i++) {
                int ground = grounds[waiting[i]];
                want(notes.cell(ground, NOTE_A));
                want(notes.cell(ground, NOTE_B));
                want(notes.cell(ground, NOTE_C));
            }
        }

        private void want(int file) {
            if (file >= 0 && file < MOST_FILES && manyWaiting < MOST_FILES && !wanted.has(file)) {
                wanted.add(file);
                waiting[manyWaiting] = file;
                manyWaiting++;
            }
        }

        private boolean isPart(Table notes, int note) {
            int file = notes.cell(note, NOTE_FILE);
            return wanted.has(file) && grounds[file] == note;
        }
    }

    /** What was called back, and the FILES that are so themselves or have a NOTE that is. */
    private static final class Recalls {
        private static final int NEVER = MOST_NOTES + 1;

        private final int[] toolSince = new int[TOOLS];
        private final int[] handSince = new int[HANDS];
        private final FileSet marked = new FileSet();
        private int many = 0;

        Recalls() {
            Arrays.fill(toolSince, NEVER);
            Arrays.fill(handSince, NEVER);
        }

        FileSet marked() {
            return marked;
        }

        boolean addFile(int file) {
            if (many >= MOST_RECALLS) {
                return false;
            }
            many++;
            marked.add(file);
            return true;
        }

        /** Sort 1 is a TOOL, 2 a HAND. */
        boolean addSince(int sort, int whose, int since, Table notes) {
            boolean known = sort == 1 && isTool(whose) || sort == 2 && isHand(whose);
            if (!known || since < 0 || since > MOST_NOTES || many >= MOST_RECALLS) {
                return false;
            }
            many++;
            int[] row = sort == 1 ? toolSince : handSince;
            row[whose] = Math.min(row[whose], since);
            for (int note = since; note < notes.size(); note++) {
                look(notes, note);
            }
            return true;
        }

        /** Marks the FILE of a NOTE that falls under a call back. */
        void look(Table notes, int note) {
            int sort = notes.cell(note, NOTE_SORT);
            if (sort != SOURCE && sort != BUILD) {
                return;
            }
            if (note >= sinceOf(handSince, notes.cell(note, NOTE_HAND))
                || note >= sinceOf(toolSince, notes.cell(note, NOTE_TOOL))) {
                marked.add(notes.cell(note, NOTE_FILE));
            }
        }

        private static int sinceOf(int[] row, int whose) {
            return whose >= 0 && whose < row.length ? row[whose] : NEVER;
        }
    }

    /** The TAPE, read byte by byte into the steps of a RULE. */
    private static final class Tape {
        /* What is looked for at the next byte. */
        private static final int UNIT = 0;
        private static final int SIGN = 1;
        private static final int DIGIT = 2;
        private static final int SECOND_DIGIT = 3;
        private static final int JOIN = 4;

        private final int[] bytes = new int[MOST_BYTES];
        private int length = 0;
        private final int[] steps = new int[MOST_BYTES];
        private int manySteps = 0;
        private int state = UNIT;
        private int depth = 0;
        private int letter = 0;
        private int sign = 0;

        int size() {
            return length;
        }

        int add(int word) {
            int more = 0;
            for (int shift = 24; shift >= 0; shift -= 8) {
                more += bit((word >>> shift & 255) != 0);
            }
            if (length + more > MOST_BYTES) {
                return NONE;
            }
            for (int shift = 24; shift >= 0; shift -= 8) {
                int next = word >>> shift & 255;
                if (next != 0 && length < MOST_BYTES) {
                    bytes[length] = next;
                    length++;
                }
            }
            return length;
        }

        boolean cut(int n) {
            if (n < 0 || n > length) {
                return false;
            }
            length = n;
            return true;
        }

        int firstFault() {
            manySteps = 0;
            state = UNIT;
            depth = 0;
            for (int at = 0; at < length; at++) {
                if (!take(bytes[at])) {
                    return at;
                }
            }
            boolean ended = depth == 0 && (state == SECOND_DIGIT || state == JOIN);
            return ended ? NONE : length;
        }

        /** The steps of what firstFault() read last. */
        int[] readSteps() {
            return Arrays.copyOf(steps, manySteps);
        }

        private boolean take(int next) {
            if (state == SECOND_DIGIT) {
                state = JOIN;
                if (isDigit(next)) {
                    lengthenNumber(next - '0');
                    return true;
                }
            }
            if (next == ' ') {
                return true;
            }
            switch (state) {
                case UNIT: return takeUnit(next);
                case SIGN: return takeSign(next);
                case DIGIT: return takeDigit(next);
                default: return takeJoin(next);
            }
        }

        private boolean takeUnit(int next) {
            if (next == '(' && depth < Rule.DEEPEST) {
                depth++;
                addStep(next);
                return true;
            }
            letter = next == 't' ? 0 : next == 'r' ? 1 : next == 'b' ? 2 : NONE;
            state = SIGN;
            return letter != NONE;
        }

        private boolean takeSign(int next) {
            sign = next == '=' ? 0 : next == '<' ? 1 : next == '>' ? 2 : NONE;
            state = DIGIT;
            return sign != NONE;
        }

        private boolean takeDigit(int next) {
            if (!isDigit(next)) {
                return false;
            }
            addStep(Rule.test(letter, sign, next - '0'));
            state = SECOND_DIGIT;
            return true;
        }

        private boolean takeJoin(int next) {
            if (next == ')' && depth > 0) {
                depth--;
            } else if (next == '&' || next == '|') {
                state = UNIT;
            } else {
                return false;
            }
            addStep(next);
            return true;
        }

        private void addStep(int step) {
            if (manySteps < MOST_BYTES) {
                steps[manySteps] = step;
                manySteps++;
            }
        }

        private void lengthenNumber(int digit) {
            if (manySteps > 0 && manySteps <= MOST_BYTES) {
                int first = steps[manySteps - 1] % 100;
                steps[manySteps - 1] += 9 * first + digit;
            }
        }

        private static boolean isDigit(int next) {
            return next >= '0' && next <= '9';
        }
    }

    /** A RULE as steps: the bytes ( ) & | and whole tests. One without steps lets all. */
    private static final class Rule {
        private static final int DEEPEST = 8;
        /* A test is above all bytes, and its last two digits are its number. */
        private static final int FIRST_TEST = 1000;
        private static final int ALL_TRIES = (1 << (HANDS + 1)) - 1;

        private final int[] steps;
        private final int[] someParts = new int[DEEPEST + 1];
        private final int[] everyUnit = new int[DEEPEST + 1];

        Rule(int[] steps) {
            this.steps = steps;
        }

        static int test(int letter, int sign, int number) {
            return FIRST_TEST + letter * 300 + sign * 100 + number;
        }

        /** The t, as bits, by which it holds beside r and b: all at once, as JUDGING asks for them all. */
        int holdingTries(int r, int b) {
            int depth = 0;
            begin(depth);
            for (int i = 0; i < steps.length; i++) {
                int step = steps[i];
                if (step >= FIRST_TEST) {
                    everyUnit[depth] &= triesOfTest(step - FIRST_TEST, r, b);
                } else if (step == '(' && depth < DEEPEST) {
                    depth++;
                    begin(depth);
                } else if (step == ')' && depth > 0) {
                    depth--;
                    everyUnit[depth] &= someParts[depth + 1] | everyUnit[depth + 1];
                } else if (step == '|') {
                    someParts[depth] |= everyUnit[depth];
                    everyUnit[depth] = ALL_TRIES;
                }
            }
            return someParts[0] | everyUnit[0];
        }

        private void begin(int depth) {
            if (depth >= 0 && depth <= DEEPEST) {
                someParts[depth] = 0;
                everyUnit[depth] = ALL_TRIES;
            }
        }

        private static int triesOfTest(int test, int r, int b) {
            int letter = test / 300;
            int sign = test / 100 % 3;
            int number = test % 100;
            if (letter == 0) {
                int below = triesBelow(number);
                int notAbove = triesBelow(number + 1);
                return sign == 0 ? notAbove & ~below : sign == 1 ? below : ALL_TRIES & ~notAbove;
            }
            int value = letter == 1 ? r : b;
            boolean holds = sign == 0 ? value == number : sign == 1 ? value < number : value > number;
            return holds ? ALL_TRIES : 0;
        }

        private static int triesBelow(int number) {
            return number > HANDS ? ALL_TRIES : (1 << number) - 1;
        }
    }

    /** JUDGING of the RULE in force, done once for each RULE and only when it is asked for. */
    private static final class Judging {
        private int hands = NONE;
        private int makerHands = NONE;
        private boolean known = false;

        void forget() {
            known = false;
        }

        int fewestHands(Rule rule) {
            judge(rule);
            return hands;
        }

        int fewestMakers(Rule rule) {
            judge(rule);
            return makerHands;
        }

        private void judge(Rule rule) {
            if (known) {
                return;
            }
            known = true;
            hands = NONE;
            makerHands = NONE;
            for (int b = 0; b <= HANDS; b++) {
                for (int r = 0; r <= HANDS; r++) {
                    weigh(rule, r, b);
                }
            }
        }

        /** With r and b given, the fewest MAKERS and others that allow them also make n least. */
        private void weigh(Rule rule, int r, int b) {
            int x = Math.max(1, b);
            int others = Math.max(2, r);
            if (x + others > HANDS) {
                return;
            }
            int tries = rule.holdingTries(r, b);
            if (tries == 0) {
                return;
            }
            int n = Math.max(x + others, Integer.numberOfTrailingZeros(tries));
            if (hands == NONE || n < hands || n == hands && x < makerHands) {
                hands = n;
                makerHands = x;
            }
        }
    }

    /** The FILES that were asked for, the first at place 0. */
    private static final class Queue {
        private final int[] files = new int[MOST_FILES];
        private int length = 0;

        int size() {
            return length;
        }

        int first() {
            return length > 0 ? files[0] : NONE;
        }

        int placeOf(int file) {
            for (int place = 0; place < length; place++) {
                if (files[place] == file) {
                    return place;
                }
            }
            return NONE;
        }

        int add(int file) {
            if (length >= MOST_FILES || placeOf(file) != NONE) {
                return NONE;
            }
            files[length] = file;
            length++;
            return length - 1;
        }

        int removeFirst() {
            int file = first();
            if (length > 0) {
                length--;
                System.arraycopy(files, 1, files, 0, length);
            }
            return file;
        }
    }

    private static final class Keys {
        private final int[] usesLeft = new int[KEYS];
        private final boolean[] ended = new boolean[KEYS];
        private final int[] lost = new int[KEYS];
        private final int[] manySeals = new int[KEYS];

        Keys() {
            Arrays.fill(lost, NONE);
        }

        private static boolean isKey(int key) {
            return key >= 0 && key < KEYS;
        }

        private boolean isLive(int key) {
            return isKey(key) && !ended[key] && lost[key] == NONE;
        }

        boolean canSeal(int key) {
            return isLive(key) && usesLeft[key] > 0;
        }

        void useOnce(int key) {
            if (canSeal(key)) {
                usesLeft[key]--;
                manySeals[key]++;
            }
        }

        int addUses(int key, int many) {
            if (!isLive(key) || many < 1 || many > MOST_USES_TOLD || usesLeft[key] + many > MOST_USES) {
                return NONE;
            }
            usesLeft[key] += many;
            return usesLeft[key];
        }

        boolean endOne(int key) {
            if (!isLive(key)) {
                return false;
            }
            ended[key] = true;
            return true;
        }

        boolean loseOne(int key, int since) {
            if (!isKey(key) || lost[key] != NONE) {
                return false;
            }
            lost[key] = since;
            return true;
        }

        int lostSince(int key) {
            return isKey(key) ? lost[key] : NONE;
        }

        int tell(int key, int what) {
            if (!isKey(key)) {
                return NONE;
            }
            switch (what) {
                case 0: return usesLeft[key];
                case 1: return bit(ended[key]);
                case 2: return lost[key];
                case 3: return manySeals[key];
                default: return NONE;
            }
        }
    }
}
