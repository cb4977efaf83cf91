import java.util.ArrayList;
import java.util.List;
import java.util.TreeSet;

/** The document's words as they stand, worked out anew for each call: slow, and with none of SealLine's ways. */
final class PlainLine {
    static final int NONE = -1;

    private record Note(int sort, int file, int hand, int tool, List<Integer> in, int good) { }

    private record Seal(int file, int key, int tick, int one, int other, int rule) { }

    private record Recall(int sort, int whose, int since) { }

    private static final class Key {
        int uses = 0;
        boolean ended = false;
        int lost = NONE;
    }

    private final List<Long> hashes = new ArrayList<>();
    private final List<Note> notes = new ArrayList<>();
    private final List<Seal> seals = new ArrayList<>();
    private final List<Recall> recalls = new ArrayList<>();
    private final List<Integer> queue = new ArrayList<>();
    private final List<String> rules = new ArrayList<>();
    private final Key[] keys = {new Key(), new Key(), new Key(), new Key()};
    private String tape = "";

    private static boolean within(int x, int many) {
        return x >= 0 && x < many;
    }

    private boolean isFile(int file) {
        return within(file, hashes.size());
    }

    private List<Integer> inputs(int a, int b, int c) {
        if (!isFile(a) || b == NONE && c != NONE) {
            return null;
        }
        List<Integer> in = new ArrayList<>(List.of(a));
        for (int file : new int[] {b, c}) {
            if (file != NONE && !isFile(file)) {
                return null;
            }
            if (file != NONE) {
                in.add(file);
            }
        }
        return in;
    }

    int source(int hand, long hash) {
        int there = find(hash);
        if (!within(hand, 12) || notes.size() == 400 || there == NONE && hashes.size() == 100) {
            return NONE;
        }
        if (there == NONE) {
            hashes.add(hash);
        }
        notes.add(new Note(0, find(hash), hand, NONE, List.of(), NONE));
        return find(hash);
    }

    int build(int hand, int tool, int a, int b, int c, long hash) {
        List<Integer> in = inputs(a, b, c);
        int there = find(hash);
        if (!within(hand, 12) || !within(tool, 6) || in == null || notes.size() == 400) {
            return NONE;
        }
        if (there == NONE && hashes.size() == 100) {
            return NONE;
        }
        for (int file : in) {
            if (there != NONE && row(file).contains(there)) {
                return NONE;
            }
        }
        boolean meets = hash == mix(tool, a, b, c);
        if (there == NONE) {
            hashes.add(hash);
        }
        notes.add(new Note(1, find(hash), hand, tool, in, meets ? 1 : 0));
        return find(hash);
    }

    long mix(int tool, int a, int b, int c) {
        List<Integer> in = inputs(a, b, c);
        if (!within(tool, 6) || in == null) {
            return 0L;
        }
        long x = tool + 1;
        for (int file : in) {
            x = (x ^ hashes.get(file)) * 6364136223846793005L + 1442695040888963407L;
        }
        return x;
    }

    int tries(int hand, int file, boolean good) {
        return say(2, hand, file, good);
    }

    int review(int hand, int file, boolean good) {
        return say(3, hand, file, good);
    }

    private int say(int sort, int hand, int file, boolean good) {
        if (!within(hand, 12) || !isFile(file) || notes.size() == 400) {
            return NONE;
        }
        notes.add(new Note(sort, file, hand, NONE, List.of(), good ? 1 : 0));
        return notes.size() - 1;
    }

    int feed(int bytes) {
        StringBuilder longer = new StringBuilder(tape);
        for (int i = 3; i >= 0; i--) {
            char next = (char) (bytes >> 8 * i & 0xff);
            if (next != 0) {
                longer.append(next);
            }
        }
        if (longer.length() > 100) {
            return NONE;
        }
        tape = longer.toString();
        return tape.length();
    }

    boolean end(int n) {
        if (n < 0 || n > tape.length()) {
            return false;
        }
        tape = tape.substring(0, n);
        return true;
    }

    int fault() {
        return new Reading(tape, 0, 0, 0).fault();
    }

    int rule() {
        if (rules.size() == 20 || fault() != NONE) {
            return NONE;
        }
        rules.add(tape);
        tape = "";
        return rules.size() - 1;
    }

    int ask(int file) {
        if (!isFile(file) || queue.contains(file)) {
            return NONE;
        }
        queue.add(file);
        return queue.indexOf(file);
    }

    int skip() {
        return queue.isEmpty() ? NONE : queue.remove(0);
    }

    int seal(int one, int other, int key) {
        if (why(one, other, key) != 0) {
            return NONE;
        }
        int file = queue.remove(0);
        seals.add(new Seal(file, key, notes.size(), one, other, rules.size() - 1));
        notes.add(new Note(4, file, one, NONE, List.of(), NONE));
        keys[key].uses--;
        return seals.size() - 1;
    }

    int why(int one, int other, int key) {
        if (queue.isEmpty()) {
            return 1;
        }
        if (!within(one, 12) || !within(other, 12) || one == other) {
            return 2;
        }
        int file = queue.get(0);
        TreeSet<Integer> makers = makersOf(file);
        if (makers.contains(one) || makers.contains(other)) {
            return 3;
        }
        if (!within(key, 4) || keys[key].uses == 0 || keys[key].ended || keys[key].lost != NONE) {
            return 4;
        }
        if (!clean(file)) {
            return 5;
        }
        if (!holds(file(file, 2), file(file, 3), file(file, 4))) {
            return 6;
        }
        if (calledBack(file)) {
            return 7;
        }
        return notes.size() == 400 ? 8 : 0;
    }

    int uses(int key, int many) {
        if (!within(key, 4) || many < 1 || many > 1000 || keys[key].ended || keys[key].lost != NONE) {
            return NONE;
        }
        if (keys[key].uses + many > 1000000) {
            return NONE;
        }
        return keys[key].uses += many;
    }

    boolean finish(int key) {
        if (!within(key, 4) || keys[key].ended || keys[key].lost != NONE) {
            return false;
        }
        keys[key].ended = true;
        return true;
    }

    int lose(int key, int since) {
        if (!within(key, 4) || keys[key].lost != NONE || since < 0 || since > notes.size()) {
            return NONE;
        }
        keys[key].lost = since;
        return (int) seals.stream().filter(seal -> seal.key == key && seal.tick >= since).count();
    }

    int recall(int sort, int whose, int since) {
        if (recalls.size() == 50 || sort < 0 || sort > 2 || sort != 0 && (since < 0 || since > 400)) {
            return NONE;
        }
        if (!within(whose, sort == 0 ? hashes.size() : sort == 1 ? 6 : 12)) {
            return NONE;
        }
        recalls.add(new Recall(sort, whose, since));
        return count(7);
    }

    int file(int file, int what) {
        if (!isFile(file)) {
            return NONE;
        }
        TreeSet<Integer> hands = new TreeSet<>();
        int many = 0;
        switch (what) {
            case 0:
                return clean(file) ? 1 : 0;
            case 1:
                return calledBack(file) ? 1 : 0;
            case 2:
                return goodHands(2, file).size();
            case 3:
                hands = goodHands(3, file);
                hands.removeAll(makersOf(file));
                return hands.size();
            case 4:
                for (Note note : notes) {
                    if (note.sort == 1 && note.file == file && note.good == 1) {
                        hands.add(note.hand);
                    }
                }
                return hands.size();
            case 5:
                return row(file).size();
            case 6:
                for (int hand : makersOf(file)) {
                    many += 1 << hand;
                }
                return many;
            case 7:
                return queue.indexOf(file);
            case 8:
                for (Seal seal : seals) {
                    many += seal.file == file && stands(seal) ? 1 : 0;
                }
                return many;
            default:
                return NONE;
        }
    }

    long hash(int file) {
        return isFile(file) ? hashes.get(file) : 0L;
    }

    int find(long hash) {
        return hashes.indexOf(hash);
    }

    int sealed(int seal, int what) {
        if (!within(seal, seals.size()) || !within(what, 7)) {
            return NONE;
        }
        Seal it = seals.get(seal);
        int[] told = {it.file, it.key, it.tick, it.one, it.other, it.rule, stands(it) ? 1 : 0};
        return told[what];
    }

    int note(int note, int what) {
        if (!within(note, notes.size()) || !within(what, 8)) {
            return NONE;
        }
        Note it = notes.get(note);
        int[] told = {it.sort, it.file, it.hand, it.tool, NONE, NONE, NONE, it.good};
        for (int i = 0; i < it.in.size(); i++) {
            told[4 + i] = it.in.get(i);
        }
        return told[what];
    }

    int least() {
        return judged(true);
    }

    int makers() {
        return judged(false);
    }

    private int judged(boolean hands) {
        for (int n = 1; n <= 12; n++) {
            for (int x = 1; x <= n - 2; x++) {
                if (canSeal(n, x)) {
                    return hands ? n : x;
                }
            }
        }
        return NONE;
    }

    private boolean canSeal(int n, int x) {
        for (int t = 0; t <= n; t++) {
            for (int r = 0; r <= n - x; r++) {
                for (int b = 0; b <= x; b++) {
                    if (holds(t, r, b)) {
                        return true;
                    }
                }
            }
        }
        return false;
    }

    int proof(int file, int i) {
        if (!isFile(file) || !clean(file)) {
            return NONE;
        }
        TreeSet<Integer> proof = new TreeSet<>();
        prove(file, proof);
        return within(i, proof.size()) ? new ArrayList<>(proof).get(i) : NONE;
    }

    private void prove(int file, TreeSet<Integer> proof) {
        for (int i = 0; i < notes.size(); i++) {
            Note note = notes.get(i);
            if (note.file == file && grounds(note)) {
                if (proof.add(i)) {
                    note.in.forEach(input -> prove(input, proof));
                }
                return;
            }
        }
    }

    int called(int i) {
        List<Integer> all = new ArrayList<>();
        for (int file = 0; file < hashes.size(); file++) {
            if (calledBack(file)) {
                all.add(file);
            }
        }
        return within(i, all.size()) ? all.get(i) : NONE;
    }

    int count(int what) {
        int many = 0;
        switch (what) {
            case 0:
                return notes.size();
            case 1:
                return hashes.size();
            case 2:
                return rules.size();
            case 3:
                return seals.size();
            case 4:
                return queue.size();
            case 5:
                return tape.length();
            case 6:
                return (int) seals.stream().filter(this::stands).count();
            case 7:
                for (int file = 0; file < hashes.size(); file++) {
                    many += calledBack(file) ? 1 : 0;
                }
                return many;
            case 8:
                return queue.isEmpty() ? NONE : queue.get(0);
            default:
                return NONE;
        }
    }

    int key(int key, int what) {
        if (!within(key, 4) || !within(what, 4)) {
            return NONE;
        }
        int many = (int) seals.stream().filter(seal -> seal.key == key).count();
        int[] told = {keys[key].uses, keys[key].ended ? 1 : 0, keys[key].lost, many};
        return told[what];
    }

    private TreeSet<Integer> row(int file) {
        TreeSet<Integer> row = new TreeSet<>();
        addRow(file, row);
        return row;
    }

    private void addRow(int file, TreeSet<Integer> row) {
        if (row.add(file)) {
            for (Note note : notes) {
                if (note.sort == 1 && note.file == file) {
                    note.in.forEach(input -> addRow(input, row));
                }
            }
        }
    }

    private TreeSet<Integer> makersOf(int file) {
        TreeSet<Integer> row = row(file);
        TreeSet<Integer> makers = new TreeSet<>();
        for (Note note : notes) {
            if (note.sort <= 1 && row.contains(note.file)) {
                makers.add(note.hand);
            }
        }
        return makers;
    }

    private TreeSet<Integer> goodHands(int sort, int file) {
        TreeSet<Integer> hands = new TreeSet<>();
        for (Note note : notes) {
            if (note.sort == sort && note.file == file) {
                hands.remove(note.hand);
                if (note.good == 1) {
                    hands.add(note.hand);
                }
            }
        }
        return hands;
    }

    private TreeSet<Integer> cleanFiles = null;
    private int cleanNotes = 0;

    /** Worked out from nothing, whenever there are NOTES that were not there the last time. */
    private boolean clean(int file) {
        if (cleanFiles == null || cleanNotes != notes.size()) {
            cleanFiles = new TreeSet<>();
            cleanNotes = notes.size();
            int before = -1;
            while (before != cleanFiles.size()) {
                before = cleanFiles.size();
                for (Note note : notes) {
                    if (note.sort == 0 || note.sort == 1 && note.good == 1 && cleanFiles.containsAll(note.in)) {
                        cleanFiles.add(note.file);
                    }
                }
            }
        }
        return cleanFiles.contains(file);
    }

    private boolean grounds(Note note) {
        return note.sort == 0 || note.sort == 1 && note.good == 1 && note.in.stream().allMatch(this::clean);
    }

    private boolean calledBack(int file) {
        if (recalls.isEmpty()) {
            return false;
        }
        TreeSet<Integer> row = row(file);
        for (Recall recall : recalls) {
            if (recall.sort == 0 && row.contains(recall.whose)) {
                return true;
            }
            for (int tick = 0; tick < notes.size(); tick++) {
                Note note = notes.get(tick);
                boolean told = recall.sort == 1 && note.sort == 1 && note.tool == recall.whose
                    || recall.sort == 2 && note.sort <= 1 && note.hand == recall.whose;
                if (told && tick >= recall.since && row.contains(note.file)) {
                    return true;
                }
            }
        }
        return false;
    }

    private boolean stands(Seal seal) {
        int lost = keys[seal.key].lost;
        return (lost == NONE || seal.tick < lost) && !calledBack(seal.file);
    }

    private boolean holds(int t, int r, int b) {
        return rules.isEmpty() || new Reading(rules.get(rules.size() - 1), t, r, b).holds();
    }

    /** Reads a text by going down into it, and tells the value of what it has read. */
    private static final class Reading {
        private static final class Fault extends RuntimeException {
            private static final long serialVersionUID = 1L;
            private final int at;

            Fault(int at) {
                this.at = at;
            }
        }

        private final String text;
        private final int[] values;
        private int at = 0;

        Reading(String text, int t, int r, int b) {
            this.text = text;
            this.values = new int[] {t, r, b};
        }

        boolean holds() {
            boolean value = tests(0);
            if (at < text.length()) {
                throw new Fault(at);
            }
            return value;
        }

        int fault() {
            try {
                holds();
                return NONE;
            } catch (Fault fault) {
                return fault.at;
            }
        }

        private boolean tests(int depth) {
            boolean value = part(depth);
            while (seen('|')) {
                value |= part(depth);
            }
            return value;
        }

        private boolean part(int depth) {
            boolean value = unit(depth);
            while (seen('&')) {
                value &= unit(depth);
            }
            return value;
        }

        private boolean unit(int depth) {
            if (depth < 8 && seen('(')) {
                boolean value = tests(depth + 1);
                oneOf(")");
                return value;
            }
            int told = values["trb".indexOf(oneOf("trb"))];
            char sign = oneOf("=<>");
            int number = oneOf("0123456789") - '0';
            if (at < text.length() && Character.isDigit(text.charAt(at)) && text.charAt(at) < 128) {
                number = number * 10 + text.charAt(at) - '0';
                at++;
            }
            blanks();
            return sign == '=' ? told == number : sign == '<' ? told < number : told > number;
        }

        private void blanks() {
            while (at < text.length() && text.charAt(at) == ' ') {
                at++;
            }
        }

        private boolean seen(char want) {
            blanks();
            if (at < text.length() && text.charAt(at) == want) {
                at++;
                blanks();
                return true;
            }
            return false;
        }

        private char oneOf(String wanted) {
            blanks();
            if (at == text.length() || wanted.indexOf(text.charAt(at)) < 0) {
                throw new Fault(at);
            }
            at++;
            char got = text.charAt(at - 1);
            if (got < '0' || got > '9') {
                blanks();
            }
            return got;
        }
    }
}
