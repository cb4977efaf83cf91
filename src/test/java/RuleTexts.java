import java.util.Random;

/** Texts of RULES for drawn runs: good ones, and good ones with a byte or two gone wrong. */
final class RuleTexts {
    private static final String BYTES = "trb=<>()&| 0123456789x";

    private RuleTexts() {
    }

    static String piece(Random random) {
        StringBuilder text = new StringBuilder();
        if (random.nextBoolean()) {
            addTest(random, text);
        }
        while (text.length() < 4) {
            text.append(BYTES.charAt(random.nextInt(BYTES.length())));
        }
        return text.substring(0, 4);
    }

    static String whole(Random random) {
        StringBuilder text = new StringBuilder();
        addTests(random, text, random.nextInt(4) == 0 ? 10 : random.nextInt(4));
        for (int wrong = random.nextInt(8) - 5; wrong > 0; wrong--) {
            char next = BYTES.charAt(random.nextInt(BYTES.length()));
            int at = random.nextInt(text.length());
            if (random.nextBoolean()) {
                text.insert(at, next);
            } else {
                text.setCharAt(at, next);
            }
        }
        return text.substring(0, Math.min(text.length(), 108));
    }

    private static void addTests(Random random, StringBuilder text, int depth) {
        int units = 1 + random.nextInt(3);
        for (int i = 0; i < units && text.length() < 80; i++) {
            if (i > 0) {
                add(random, text, random.nextBoolean() ? '&' : '|');
            }
            if (depth > 0 && random.nextInt(10) < 7) {
                add(random, text, '(');
                addTests(random, text, depth - 1);
                add(random, text, ')');
            } else {
                addTest(random, text);
            }
        }
    }

    private static void addTest(Random random, StringBuilder text) {
        add(random, text, "trb".charAt(random.nextInt(3)));
        add(random, text, "=<>".charAt(random.nextInt(3)));
        int number = random.nextInt(8) == 0 ? random.nextInt(100) : random.nextInt(5);
        String digits = random.nextInt(8) == 0 ? "0" + number % 10 : Integer.toString(number);
        add(random, text, digits.charAt(0));
        text.append(digits.substring(1));
        if (random.nextInt(60) == 0) {
            text.append("7");
        }
    }

    private static void add(Random random, StringBuilder text, char next) {
        if (random.nextInt(8) == 0) {
            text.append(" ".repeat(1 + random.nextInt(2)));
        }
        text.append(next);
    }
}
