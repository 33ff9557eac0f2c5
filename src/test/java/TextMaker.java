import java.util.Random;

/** Makes texts of scales and habits, most of them right, some with one thing wrong in them. */
final class TextMaker {
    private static final String[] PIECES = {
        "canvas", "sea", "leaf", "from", "if", "and", "or", "not", "(", ")", "<", ">", "=", ";", "rig", "depth",
        "year", "number", "spars", "lean", "up", "down", "write", "for", "0", "12", "13", "99", "100", "9999",
        "10000", "00012", "x", "notnot", "+", "A", "\u00e9", " ", "\n", "\t", "",
    };

    private TextMaker() {
    }

    static String text(Random random, boolean isScale) {
        StringBuilder text = new StringBuilder();
        int statements = random.nextInt(25) == 0 ? 39 + random.nextInt(4) : random.nextInt(7);
        boolean isShort = statements > 20;
        for (int k = 0; k < statements; k++) {
            text.append(blank(random));
            if (isScale) {
                sort(random, text, isShort);
            } else {
                habit(random, text, isShort);
            }
        }
        text.append(random.nextInt(4) == 0 ? blank(random) : "");
        if (random.nextInt(4) == 0) {
            spoil(random, text);
        }
        return text.toString();
    }

    private static String blank(Random random) {
        return new String[] {"", "", " ", "\n", "  "}[random.nextInt(5)];
    }

    private static String gap(Random random) {
        return new String[] {" ", " ", "\n", "  "}[random.nextInt(4)];
    }

    private static void sort(Random random, StringBuilder text, boolean isShort) {
        text.append(new String[] {"canvas", "sea", "leaf"}[random.nextInt(3)]).append(blank(random));
        text.append(random.nextInt(13)).append(blank(random)).append("from").append(blank(random));
        text.append(random.nextInt(10) == 0 ? "0" : "").append(random.nextInt(100)).append(blank(random));
        condition(random, text, isShort, true);
    }

    private static void habit(Random random, StringBuilder text, boolean isShort) {
        if (random.nextBoolean()) {
            text.append("lean").append(gap(random)).append(random.nextBoolean() ? "up" : "down").append(blank(random));
            text.append(random.nextInt(random.nextBoolean() ? 13 : 4)).append(blank(random));
            condition(random, text, isShort, false);
        } else {
            text.append("write").append(blank(random)).append(random.nextInt(13)).append(blank(random));
            text.append("for").append(blank(random)).append(random.nextInt(13)).append(blank(random)).append(';');
        }
    }

    private static void condition(Random random, StringBuilder text, boolean isShort, boolean isScale) {
        if (!isShort && random.nextInt(3) > 0) {
            text.append("if").append(gap(random));
            any(random, text, 0, isScale);
        }
        text.append(blank(random)).append(';');
    }

    private static void any(Random random, StringBuilder text, int open, boolean isScale) {
        one(random, text, open, isScale);
        while (random.nextInt(3) == 0) {
            text.append(gap(random)).append(random.nextBoolean() ? "and" : "or").append(gap(random));
            one(random, text, open, isScale);
        }
    }

    private static void one(Random random, StringBuilder text, int open, boolean isScale) {
        int which = random.nextInt(open > 10 ? 3 : 5);
        if (which == 3) {
            text.append("not").append(gap(random));
            one(random, text, open + 1, isScale);
        } else if (which == 4) {
            int many = random.nextInt(8) == 0 ? 9 - open + random.nextInt(3) : 1;
            for (int k = 0; k < many; k++) {
                text.append('(');
            }
            any(random, text, open + Math.max(0, many), isScale);
            for (int k = 0; k < many; k++) {
                text.append(')');
            }
        } else {
            String[] words = isScale ? new String[] {"rig", "depth", "year"} : new String[] {"number", "rig", "year", "spars"};
            text.append(words[random.nextInt(words.length)]).append(blank(random));
            text.append("<>=".charAt(random.nextInt(3))).append(blank(random));
            text.append(random.nextInt(12) == 0 ? random.nextInt(12000) : random.nextInt(10));
        }
    }

    private static void spoil(Random random, StringBuilder text) {
        int at = random.nextInt(text.length() + 1);
        if (random.nextBoolean() && at < text.length()) {
            text.deleteCharAt(at);
        } else {
            text.insert(at, PIECES[random.nextInt(PIECES.length)]);
        }
    }
}
