import java.math.BigInteger;

/** Promises 13 to 17: what is READ and written, columns, numbers turned from one scale into another. */
public final class ScalesTest {
    private static final Check CHECK = new Check("ScalesTest");

    public static void main(String[] args) {
        bareScale();
        readsOfAScale();
        readsBinding();
        scalesOfYears();
        readsNoneSuch();
        blow();
        blowWords();
        blowNoneSuch();
        run();
        runNoneSuch();
        column();
        columnNoneSuch();
        turn();
        turnByYears();
        turnNoneSuch();
        CHECK.end();
    }

    private static void same(String what, long got, long want) {
        CHECK.same(what, got, want);
    }

    private static void bareScale() {
        WindWords x = new WindWords();
        int[] winds = {0, 7, 8, 40, 47, 95, 96, 99};
        int[] due = {0, 0, 1, 5, 5, 11, 12, 12};
        for (int k = 0; k < winds.length; k++) {
            for (int kind = 0; kind < 3; kind++) {
                same("13: bare " + winds[k], x.reads(9, kind, winds[k], 39), due[k]);
            }
        }
    }

    private static void readsOfAScale() {
        WindWords x = new WindWords();
        Check.scale(x, "canvas 3 from 10; canvas 2 from 20; canvas 5 from 50; sea 7 from 0 if depth > 4;"
                + "canvas 4 from 30 if rig = 1 or year = 2; leaf 12 from 99; leaf 1 from 98;", 0);
        int[][] due = {
            // year, kind, wind, mix, number
            {0, 0, 9, 0, 0}, {0, 0, 10, 0, 3}, {0, 0, 20, 0, 3}, {0, 0, 49, 0, 3}, {0, 0, 50, 0, 5}, {0, 0, 99, 0, 5},
            {0, 0, 30, 10, 4}, {0, 0, 29, 10, 3}, {2, 0, 30, 0, 4}, {1, 0, 30, 20, 3}, {0, 0, 50, 10, 5},
            {0, 1, 0, 4, 0}, {0, 1, 0, 5, 7}, {0, 1, 99, 39, 7}, {0, 1, 99, 30, 0},
            {0, 2, 97, 0, 0}, {0, 2, 98, 0, 1}, {0, 2, 99, 0, 12},
        };
        for (int[] d : due) {
            same("13: reads(" + d[0] + ", " + d[1] + ", " + d[2] + ", " + d[3] + ")", x.reads(d[0], d[1], d[2], d[3]), d[4]);
        }
    }

    /** "and" binds more than "or", "not" more than "and". */
    private static void readsBinding() {
        String[] asked = {
            "rig=1 or rig=2 and depth=3", "(rig=1 or rig=2) and depth=3", "not rig=1 and depth=3", "not (rig=1 and depth=3)",
            "not rig=1 or depth=3", "rig=1 and depth=3 or rig=2", "not not rig=1", "rig<1", "rig>2", "rig=0001",
        };
        for (int k = 0; k < asked.length; k++) {
            WindWords x = new WindWords();
            same("9: " + asked[k], Check.scale(x, "sea 1 from 0 if " + asked[k] + ";", 0), 0);
            for (int mix = 0; mix < 40; mix++) {
                int rig = mix / 10;
                boolean deep = mix % 10 == 3;
                boolean[] due = {
                    rig == 1 || rig == 2 && deep, (rig == 1 || rig == 2) && deep, rig != 1 && deep, !(rig == 1 && deep),
                    rig != 1 || deep, rig == 1 && deep || rig == 2, rig == 1, rig < 1, rig > 2, rig == 1,
                };
                same("13: " + asked[k] + " of " + mix, x.reads(0, 1, 0, mix), due[k] ? 1 : 0);
            }
        }
    }

    private static void scalesOfYears() {
        WindWords x = new WindWords();
        Check.scale(x, "sea 5 from 0;", 5);
        Check.scale(x, "sea 3 from 0;", 3);
        Check.scale(x, "sea 7 from 0;", 7);
        int[] first = {12, 12, 12, 3, 3, 5, 5, 7, 7, 7};
        for (int year = 0; year < 10; year++) {
            same("13: of year " + year, x.reads(year, 1, 99, 0), first[year]);
        }
        Check.scale(x, "sea 6 from 0;", 5);
        same("13: of one year the one told last", x.reads(5, 1, 0, 0), 6);
        same("13: up to the next", x.reads(6, 1, 0, 0), 6);
        same("13: a later one", x.reads(7, 1, 0, 0), 7);
        Check.scale(x, "", 9);
        same("13: an empty one", x.reads(9, 1, 99, 0), 0);
    }

    private static void readsNoneSuch() {
        WindWords x = new WindWords();
        int[][] wrong = {
            {-1, 0, 0, 0}, {10, 0, 0, 0}, {0, -1, 0, 0}, {0, 3, 0, 0}, {0, 0, -1, 0}, {0, 0, 100, 0}, {0, 0, 0, -1}, {0, 0, 0, 40},
        };
        for (int[] w : wrong) {
            same("13: none such", x.reads(w[0], w[1], w[2], w[3]), -1);
        }
    }

    private static void blow() {
        WindWords x = new WindWords();
        x.officer();
        x.officer();
        x.ship(2, 0);
        x.signs(0, 1, 150);
        Check.scale(x, "sea 4 from 10 if depth=3 and rig=2; sea 2 from 5 if year=1; canvas 11 from 0;", 0);
        same("14: without habits", x.blow(0, 0, 1, 10, 3), 4);
        same("14: another depth", x.blow(0, 0, 1, 10, 2), 0);
        same("14: another year", x.blow(0, 100, 1, 9, 3), 2);
        same("14: the year's last watch", x.blow(0, 99, 1, 9, 3), 0);
        Check.habits(x, 1, "lean up 3;");
        same("14: before another signs", x.blow(0, 149, 1, 9, 0), 2);
        same("14: from then on", x.blow(0, 150, 1, 9, 0), 5);
        same("14: held to 12", x.blow(0, 150, 0, 0, 0), 12);
        Check.habits(x, 1, "lean down 3;");
        same("14: held to 0", x.blow(0, 150, 1, 9, 0), 0);
    }

    private static void blowWords() {
        WindWords x = Check.crew(1);
        Check.habits(x, 0, "lean up 2 if number > 5; lean down 1 if number = 4; write 9 for 3; write 1 for 3;"
                + "lean up 1 if number = 4; write 0 for 8; write 7 for 9;");
        int[] due = {0, 1, 2, 9, 9, 5, 0, 7, 10, 11, 12, 12, 12};
        for (int number = 0; number <= 12; number++) {
            same("14: for " + number, x.blow(0, 0, 0, 8 * number, 0), due[number]);
        }
        Check.habits(x, 0, "lean up 1 if spars > 0; lean up 2 if rig = 0 and year = 3; lean up 3 if not rig = 0;");
        same("14: spars 0", x.blow(0, 0, 0, 8, 0), 1);
        same("14: rig and year", x.blow(0, 300, 0, 8, 0), 3);
        Check.habits(x, 0, "write 2 for 1; write 3 for 2;");
        same("14: written once", x.blow(0, 0, 0, 8, 0), 2);
        Check.habits(x, 0, "lean up 0; lean up 5;");
        same("14: the first that holds, though it leans nowhere", x.blow(0, 0, 0, 8, 0), 1);
    }

    private static void blowNoneSuch() {
        WindWords x = Check.crew(1);
        int[][] wrong = {
            {1, 0, 0, 0, 0}, {-1, 0, 0, 0, 0}, {0, -1, 0, 0, 0}, {0, 1000, 0, 0, 0}, {0, 0, -1, 0, 0}, {0, 0, 3, 0, 0},
            {0, 0, 0, -1, 0}, {0, 0, 0, 100, 0}, {0, 0, 0, 0, -1}, {0, 0, 0, 0, 10},
        };
        for (int[] w : wrong) {
            same("14: none such", x.blow(w[0], w[1], w[2], w[3], w[4]), -1);
        }
        same("14: not refused", x.count(8), 0);
    }

    private static void run() {
        WindWords x = Check.crew(1);
        for (int seed : new int[] {0, 1, 5, 12345, 999999999}) {
            for (int n : new int[] {1, 2, 3, 100, 1000}) {
                int all = 0;
                for (int number = 0; number <= 12; number++) {
                    int often = x.run(0, 0, seed, n, number);
                    same("15: run(" + seed + ", " + n + ", " + number + ")", often, bareTimes(seed, n, number));
                    all += often;
                }
                same("15: together", all, n);
            }
        }
        // seed 5: winds 92, 73, 34, 5
        Check.scale(x, "canvas 3 from 73 if depth=0; canvas 9 from 0 if depth=1; sea 9 from 0;", 0);
        same("15: by the scale", x.run(0, 0, 5, 4, 3), 2);
        same("15: the others", x.run(0, 0, 5, 4, 0), 2);
        Check.habits(x, 0, "lean up 1 if spars=0; write 8 for 4;");
        same("15: by habits", x.run(0, 0, 5, 4, 8), 2);
        same("15: leant", x.run(0, 0, 5, 4, 1), 2);
        x.officer();
        x.signs(0, 1, 500);
        same("15: the officer before", x.run(0, 499, 5, 4, 8), 2);
        same("15: the officer of that watch", x.run(0, 500, 5, 4, 3), 2);
        Check.scale(x, "canvas 6 from 34; canvas 7 from 92 if year=6;", 6);
        same("15: the scale before", x.run(0, 599, 5, 4, 3), 2);
        same("15: the scale of that year", x.run(0, 600, 5, 4, 6), 2);
        same("15: that year is asked", x.run(0, 699, 5, 4, 7), 1);
        same("15: another year is asked", x.run(0, 700, 5, 4, 6), 3);
    }

    private static int bareTimes(int seed, int n, int number) {
        BigInteger room = BigInteger.ONE.shiftLeft(64);
        BigInteger z = BigInteger.valueOf(seed);
        int times = 0;
        for (int k = 0; k < n; k++) {
            z = z.multiply(new BigInteger("6364136223846793005")).add(new BigInteger("1442695040888963407")).mod(room);
            int wind = z.shiftRight(33).mod(BigInteger.valueOf(100)).intValue();
            times += Math.min(12, wind / 8) == number ? 1 : 0;
        }
        return times;
    }

    private static void runNoneSuch() {
        WindWords x = Check.crew(1);
        int[][] wrong = {
            {1, 0, 0, 1, 0}, {-1, 0, 0, 1, 0}, {0, -1, 0, 1, 0}, {0, 1000, 0, 1, 0}, {0, 0, -1, 1, 0}, {0, 0, 1000000000, 1, 0},
            {0, 0, 0, 0, 0}, {0, 0, 0, 1001, 0}, {0, 0, 0, 1, -1}, {0, 0, 0, 1, 13},
        };
        for (int[] w : wrong) {
            same("15: none such", x.run(w[0], w[1], w[2], w[3], w[4]), -1);
        }
    }

    private static void column() {
        WindWords x = new WindWords();
        same("16: bare least", x.column(0, 0, 0, 12, 0), 96);
        same("16: bare greatest", x.column(0, 0, 0, 12, 1), 99);
        Check.scale(x, "canvas 3 from 10; canvas 5 from 40 if rig=1; canvas 4 from 40; sea 2 from 0 if depth=9;", 2);
        int[][] due = {
            // year, kind, mix, number, least, greatest
            {2, 0, 0, 0, 0, 9}, {2, 0, 0, 3, 10, 39}, {2, 0, 0, 4, 40, 99}, {2, 0, 0, 5, -1, -1},
            {2, 0, 10, 4, -1, -1}, {2, 0, 10, 5, 40, 99}, {2, 1, 9, 2, 0, 99}, {2, 1, 9, 0, -1, -1},
            {2, 1, 8, 0, 0, 99}, {1, 0, 0, 3, 24, 31}, {9, 2, 39, 0, 0, 99},
        };
        for (int[] d : due) {
            String call = "16: column(" + d[0] + ", " + d[1] + ", " + d[2] + ", " + d[3] + ")";
            same(call, x.column(d[0], d[1], d[2], d[3], 0), d[4]);
            same(call, x.column(d[0], d[1], d[2], d[3], 1), d[5]);
        }
    }

    private static void columnNoneSuch() {
        WindWords x = new WindWords();
        int[][] wrong = {
            {-1, 0, 0, 0, 0}, {10, 0, 0, 0, 0}, {0, -1, 0, 0, 0}, {0, 3, 0, 0, 0}, {0, 0, -1, 0, 0}, {0, 0, 40, 0, 0},
            {0, 0, 0, -1, 0}, {0, 0, 0, 13, 0}, {0, 0, 0, 0, -1}, {0, 0, 0, 0, 2},
        };
        for (int[] w : wrong) {
            same("16: none such", x.column(w[0], w[1], w[2], w[3], w[4]), -1);
        }
    }

    private static void turned(WindWords x, int kind, int year, int number, int other, int... due) {
        for (int what = 0; what < 4; what++) {
            same("17: turn(" + kind + ", " + year + ", " + number + ", " + other + ", " + what + ")",
                    x.turn(kind, year, number, other, what), due[what]);
        }
    }

    private static void turn() {
        WindWords x = new WindWords();
        turned(x, 0, 0, 5, 9, 5, 5, 5, 0);
        // from year 1 on: 0 to 3 reads 0, 4 to 19 reads 2, 20 to 49 reads 6, from 50 on 7
        Check.scale(x, "canvas 2 from 4; canvas 6 from 20; canvas 7 from 50; sea 9 from 0 if rig > 0 or depth > 0;", 1);
        turned(x, 0, 0, 0, 1, 0, 2, 0, 4);
        turned(x, 0, 0, 2, 1, 2, 6, 2, 4);
        turned(x, 0, 0, 6, 1, 6, 7, 7, 2);
        turned(x, 0, 1, 2, 0, 0, 2, 1, 8);
        turned(x, 0, 1, 7, 0, 6, 12, 7, 42);
        turned(x, 0, 1, 3, 0, -1, -1, -1, -1);
        turned(x, 1, 1, 0, 0, 0, 12, 0, 92);
        turned(x, 1, 1, 9, 0, -1, -1, -1, -1);
        turned(x, 2, 0, 12, 5, 0, 0, 0, 0);
        turned(x, 0, 1, 6, 9, 6, 6, 6, 0);
    }

    private static void turnByYears() {
        WindWords x = new WindWords();
        Check.scale(x, "leaf 5 from 50 if year = 3; leaf 4 from 50 if year = 4; leaf 1 from 0;", 2);
        turned(x, 2, 3, 5, 4, 4, 4, 4, 0);
        turned(x, 2, 4, 4, 3, 5, 5, 5, 0);
        turned(x, 2, 4, 5, 3, -1, -1, -1, -1);
        turned(x, 2, 2, 1, 3, 1, 5, 1, 50);
        turned(x, 2, 2, 1, 1, 0, 12, 0, 92);
    }

    private static void turnNoneSuch() {
        WindWords x = new WindWords();
        int[][] wrong = {
            {-1, 0, 0, 0, 0}, {3, 0, 0, 0, 0}, {0, -1, 0, 0, 0}, {0, 10, 0, 0, 0}, {0, 0, -1, 0, 0}, {0, 0, 13, 0, 0},
            {0, 0, 0, -1, 0}, {0, 0, 0, 10, 0}, {0, 0, 0, 0, -1}, {0, 0, 0, 0, 4},
        };
        for (int[] w : wrong) {
            same("17: none such", x.turn(w[0], w[1], w[2], w[3], w[4]), -1);
        }
    }
}
