/** What the tests share: checks that are counted, and texts put on an object's tape. */
final class Check {
    private final String test;
    private int made = 0;
    private int wrong = 0;

    Check(String test) {
        this.test = test;
    }

    void same(String what, long got, long want) {
        made++;
        if (got != want) {
            wrong++;
            System.out.println(test + ": " + what + " answered " + got + ", due is " + want);
        }
    }

    void same(String what, boolean got, boolean want) {
        same(what, got ? 1 : 0, want ? 1 : 0);
    }

    boolean hasFailed() {
        return wrong > 0;
    }

    void end() {
        System.out.println(test + ": " + made + " checks, " + wrong + " wrong");
        if (wrong > 0 || made == 0) {
            System.exit(1);
        }
    }

    /** Feeds a text, filled up with blanks to twenties; answers its own length. */
    static int feed(WindWords x, String text) {
        for (int[] f : fives(text)) {
            x.feed(f[0], f[1], f[2], f[3], f[4]);
        }
        return text.length();
    }

    /** Feeds a text to both. */
    void feed(WindWords x, Model m, String text) {
        for (int[] f : fives(text)) {
            same("8: feed", x.feed(f[0], f[1], f[2], f[3], f[4]), m.feed(f));
        }
    }

    /** The numbers that feed a text, five for each twenty bytes. */
    private static int[][] fives(String text) {
        int[][] all = new int[(text.length() + 19) / 20][5];
        for (int k = 0; k < 5 * all.length; k++) {
            all[k / 5][k % 5] = four(text, 4 * k);
        }
        return all;
    }

    private static int four(String text, int from) {
        int number = 0;
        for (int k = from; k < from + 4; k++) {
            number = number << 8 | (k < text.length() ? text.charAt(k) & 255 : ' ');
        }
        return number;
    }

    static int scale(WindWords x, String text, int year) {
        return x.scale(feed(x, text), year);
    }

    static int habits(WindWords x, int officer, String text) {
        return x.habits(officer, feed(x, text));
    }

    /** Each call that only asks, with the same two numbers throughout. */
    static void askAll(WindWords x, int a, int b) {
        x.fault();
        x.reading(a, b);
        x.reads(a, b, a, b);
        x.blow(a, b, a, b, a);
        x.run(a, b, a, b, a);
        x.column(a, b, a, b, a);
        x.turn(a, b, a, b, a);
        x.tight();
        x.lean(a, b);
        x.liked(a, b, a);
        x.wind(a, b);
        x.grew(a);
        x.late(a);
        x.copied(a, b);
        x.find(a);
        x.wished(a, b);
        x.eight(a, b, a, b);
        x.alike(a);
        x.way(a, b);
        x.count(a);
    }

    /** A spot of read(). */
    static int spot(int cell, int depth, int spars) {
        return 100 * cell + 10 * depth + spars;
    }

    /** An object with so many officers, and as many ships of RIG 0 each with its own officer. */
    static WindWords crew(int officers) {
        WindWords x = new WindWords();
        for (int k = 0; k < officers; k++) {
            x.officer();
        }
        for (int k = 0; k < officers && k < 12; k++) {
            x.ship(0, k);
        }
        return x;
    }
}
