/** What the tests share: checks that are counted, and texts put on an object's tape. */
final class Check {
    private final String test;
    private int made = 0;
    private int wrong = 0;

    Check(String test) {
        this.test = test;
    }

    void same(String what, long got, long want) {
        made++;
        if (got != want) {
            wrong++;
            System.out.println(test + ": " + what + " answered " + got + ", due is " + want);
        }
    }

    void same(String what, boolean got, boolean want) {
        same(what, got ? 1 : 0, want ? 1 : 0);
    }

    boolean hasFailed() {
        return wrong > 0;
    }

    void end() {
        System.out.println(test + ": " + made + " checks, " + wrong + " wrong");
        if (wrong > 0 || made == 0) {
            System.exit(1);
        }
    }

    /** Feeds a text, filled up with blanks to twenties; answers its own length. */
    static int feed(WindWords x, String text) {
        int[] numbers = new int[5];
        for (int from = 0; from < text.length(); from += 20) {
            for (int k = 0; k < 5; k++) {
                numbers[k] = four(text, from + 4 * k);
            }
            x.feed(numbers[0], numbers[1], numbers[2], numbers[3], numbers[4]);
        }
        return text.length();
    }

    static int four(String text, int from) {
        int number = 0;
        for (int k = from; k < from + 4; k++) {
            number = number << 8 | (k < text.length() ? text.charAt(k) & 255 : ' ');
        }
        return number;
    }

    static int scale(WindWords x, String text, int year) {
        return x.scale(feed(x, text), year);
    }

    static int habits(WindWords x, int officer, String text) {
        return x.habits(officer, feed(x, text));
    }

    /** A spot of read(). */
    static int spot(int cell, int depth, int spars) {
        return 100 * cell + 10 * depth + spars;
    }

    /** An object with so many officers, and as many ships of RIG 0 each with its own officer. */
    static WindWords crew(int officers) {
        WindWords x = new WindWords();
        for (int k = 0; k < officers; k++) {
            x.officer();
        }
        for (int k = 0; k < officers && k < 12; k++) {
            x.ship(0, k);
        }
        return x;
    }
}
