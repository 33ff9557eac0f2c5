/** The edges that the words in capitals have of themselves: how far, how tight, how many, which one of several. */
public final class TermsTest {
    private static final Check CHECK = new Check("TermsTest");

    public static void main(String[] args) {
        farBetweenAllCells();
        whoSigns();
        manyNots();
        comparisonsOfScales();
        comparisonsOfHabits();
        statementsAfterAFault();
        lastOfFortyHolds();
        habitsOfTheLastOfficer();
        habitsByRigAndYear();
        leansHeldAtTheEnds();
        runByRigAndWinds();
        columnsOfOneWind();
        turnedByOneWind();
        turnedForRigAndDepthNone();
        tightAtTwiceTheError();
        tightBetweenTwo();
        leanThroughAllOfficers();
        windOfTheLastOfficer();
        oddsOfAllNumbers();
        grewByMeans();
        lateByCupsAtTheEnds();
        copiedBesideTheFirstShip();
        copiedAtTheEnds();
        wishedAmongThoseAlone();
        imagesAtTheEnds();
        CHECK.end();
    }

    private static void same(String what, long got, long want) {
        CHECK.same(what, got, want);
    }

    /** Two ships in any two CELLS: each SIGHT from their distance on has them IN SIGHT. */
    private static void farBetweenAllCells() {
        for (int cell = 0; cell < 64; cell++) {
            WindWords x = Check.crew(2);
            for (int other = 0; other < 64; other++) {
                x.read(0, other, 100 * cell, 0, 0);
                x.read(1, other, 100 * other, 3, 0);
            }
            for (int sight = 0; sight <= 7; sight++) {
                x.set(sight, 1);
                int near = 0;
                for (int other = 0; other < 64; other++) {
                    int east = Math.abs(cell % 8 - other % 8);
                    int south = Math.abs((cell >> 3) - (other >> 3));
                    near += east <= sight && south <= sight ? 1 : 0;
                }
                same("27: couples within " + sight + " of " + cell, x.eight(0, 0, 0, 0), near);
            }
        }
    }

    private static void whoSigns() {
        WindWords x = Check.crew(4);
        same("4: from watch 1", x.signs(0, 1, 1), 1);
        same("4: from watch 500", x.signs(0, 2, 500), 2);
        same("4: from watch 999", x.signs(0, 3, 999), 3);
        same("4: nothing is later", x.signs(0, 0, 999), -1);
        same("4: nor beyond", x.signs(0, 0, 1000), -1);
        int[] watches = {0, 1, 499, 500, 998, 999};
        int[] officers = {0, 1, 1, 2, 2, 3};
        for (int k = 0; k < watches.length; k++) {
            x.read(0, watches[k], 0, 0, 0);
            same("12: officer on " + watches[k], x.reading(k, 7), officers[k]);
        }
        same("4: a refused one", x.signs(1, 4, 700), -1);
        same("4: isn't the last one told", x.signs(1, 0, 5), 4);
    }

    private static void manyNots() {
        WindWords x = new WindWords();
        for (int many = 0; many <= 9; many++) {
            int scale = many % 8;
            if (scale == 0) {
                x = new WindWords();
            }
            String text = "sea 1 from 0 if " + "not ".repeat(many) + "rig=1; leaf 1 from 0 if depth=0 and " + "not ".repeat(many) + "rig=1;";
            same("9: scale", Check.scale(x, text, scale), scale);
            for (int rig = 0; rig < 4; rig++) {
                int due = (rig == 1) == (many % 2 == 0) ? 1 : 0;
                same("13: " + many + " times not, rig " + rig, x.reads(scale, 1, 50, 10 * rig), due);
                same("13: behind and, " + many + " times not, rig " + rig, x.reads(scale, 2, 50, 10 * rig), due);
                same("13: depth 1", x.reads(scale, 2, 50, 10 * rig + 1), 0);
            }
        }
    }

    private static boolean compares(int is, char sign, int value) {
        return sign == '<' ? is < value : sign == '>' ? is > value : is == value;
    }

    /** Each word against numbers from 0 to 9999, alone and joined: what is asked last in a text asks nothing of what stands before. */
    private static void comparisonsOfScales() {
        String[] words = {"rig", "depth", "year"};
        for (int word = 0; word < 3; word++) {
            for (char sign : new char[] {'<', '>', '='}) {
                for (int value : new int[] {0, 1, 3, 9, 10, 9999}) {
                    String one = words[word] + sign + value;
                    WindWords x = new WindWords();
                    Check.scale(x, "sea 1 from 0 if " + one + "; leaf 1 from 0 if not " + one + " or depth=5; canvas 1 from 0 if depth=5 or "
                            + one + " and rig>1; canvas 2 from 50 if (depth=5 or " + one + ") and not(rig>1);", 0);
                    for (int[] is : new int[][] {{0, 0, 0}, {1, 1, 1}, {3, 3, 3}, {2, 5, 0}, {0, 5, 9}, {3, 9, 9}, {1, 9, 8}}) {
                        boolean holds = compares(is[word], sign, value);
                        boolean deep = is[1] == 5;
                        boolean high = is[0] > 1;
                        int mix = 10 * is[0] + is[1];
                        same("13: " + one + " of " + mix + " in " + is[2], x.reads(is[2], 1, 0, mix), holds ? 1 : 0);
                        same("13: not " + one + " of " + mix + " in " + is[2], x.reads(is[2], 2, 0, mix), !holds || deep ? 1 : 0);
                        int joined = (deep || holds) && !high ? 2 : deep || holds && high ? 1 : 0;
                        same("13: joined " + one + " of " + mix + " in " + is[2], x.reads(is[2], 0, 50, mix), joined);
                    }
                }
            }
        }
    }

    private static void comparisonsOfHabits() {
        String[] words = {"rig", "number", "year", "spars"};
        for (int word = 0; word < 4; word++) {
            for (char sign : new char[] {'<', '>', '='}) {
                for (int value : new int[] {0, 1, 3, 12, 13, 9999}) {
                    String one = words[word] + sign + value;
                    WindWords x = new WindWords();
                    x.officer();
                    for (int rig = 0; rig < 4; rig++) {
                        x.ship(rig, 0);
                    }
                    Check.habits(x, 0, "lean down 1 if rig=2 and " + one + "; lean up 3 if not " + one + " or rig=2; write 0 for 11;");
                    for (int[] is : new int[][] {{0, 0, 0}, {1, 1, 1}, {2, 3, 3}, {3, 3, 0}, {2, 12, 9}, {0, 12, 9}, {1, 8, 9}}) {
                        boolean holds = compares(word == 3 ? 0 : is[word], sign, value);
                        int leant = is[0] == 2 ? (holds ? is[1] - 1 : is[1] + 3) : holds ? is[1] : is[1] + 3;
                        leant = Math.max(0, Math.min(12, leant));
                        same("14: " + one + " of " + is[0] + ", " + is[1] + ", " + is[2],
                                x.blow(is[0], 100 * is[2], 0, 8 * is[1], 0), leant == 11 ? 0 : leant);
                    }
                }
            }
        }
    }

    /** A right statement behind what is wrong doesn't heal it. */
    private static void statementsAfterAFault() {
        String[] texts = {
            "sea sea 1 from 1;", "sea 3 sea 1 from 1;", "sea 3 from sea 1 from 1;", "sea 3 from 10 sea 1 from 1;",
            "sea 3 from 10 if sea 1 from 1;", "sea 3 from 10 if rig sea 1 from 1;", "sea 3 from 10 if rig<sea 1 from 1;",
            "sea 3 from 10 if rig<3 sea 1 from 1;", "sea 3 from 10 if rig<3 or sea 1 from 1;", "sea 3 from 10 if rig<3 and sea 1 from 1;",
            "sea 3 from 10 if not sea 1 from 1;", "sea 3 from 10 if (sea 1 from 1;", "sea 3 from 10 if (rig<3 sea 1 from 1;",
        };
        int[] places = {4, 6, 11, 14, 17, 21, 21, 23, 26, 27, 21, 18, 24};
        for (int k = 0; k < texts.length; k++) {
            WindWords x = new WindWords();
            same("9: " + texts[k], Check.scale(x, texts[k], 0), -1);
            same("11: " + texts[k], x.fault(), places[k]);
        }
        String[] habits = {
            "lean lean up 1;", "lean up lean up 1;", "lean up 1 lean up 1;", "write lean up 1;", "write 1 lean up 1;",
            "write 1 for lean up 1;", "write 1 for 2 lean up 1;",
        };
        int[] ends = {5, 8, 10, 6, 8, 12, 14};
        for (int k = 0; k < habits.length; k++) {
            WindWords x = Check.crew(1);
            same("10: " + habits[k], Check.habits(x, 0, habits[k]), -1);
            same("11: " + habits[k], x.fault(), ends[k]);
        }
    }

    private static void lastOfFortyHolds() {
        WindWords x = Check.crew(1);
        Check.scale(x, "sea 1 from 1 if rig=1;".repeat(39) + "sea 12 from 99 if rig=2;", 0);
        same("13: the fortieth", x.reads(0, 1, 99, 20), 12);
        same("13: not for another rig", x.reads(0, 1, 99, 30), 0);
        same("16: its column", x.column(0, 1, 20, 12, 0), 99);
        x = Check.crew(1);
        Check.habits(x, 0, "lean up 1 if rig=1;".repeat(39) + "lean up 2;");
        same("14: the fortieth", x.blow(0, 0, 0, 40, 0), 7);
        Check.habits(x, 0, "write 1 for 2;".repeat(39) + "write 3 for 4;");
        same("14: the fortieth one written", x.blow(0, 0, 0, 39, 0), 3);
    }

    private static void habitsOfTheLastOfficer() {
        WindWords x = new WindWords();
        for (int k = 0; k < 16; k++) {
            x.officer();
        }
        x.ship(0, 15);
        same("10: the sixteenth", Check.habits(x, 15, "lean up 2; write 1 for 9;"), 2);
        same("10: the first", Check.habits(x, 0, "lean up 5;"), 1);
        same("14: what the sixteenth writes", x.blow(0, 0, 0, 40, 0), 7);
        same("14: and writes for 9", x.blow(0, 0, 0, 56, 0), 1);
        same("33: of both", x.count(13), 3);
        x.signs(0, 0, 999);
        same("14: of the first on the last watch", x.blow(0, 999, 0, 40, 0), 10);
        same("14: on the one before", x.blow(0, 998, 0, 40, 0), 7);
    }

    private static void habitsByRigAndYear() {
        WindWords x = new WindWords();
        x.officer();
        for (int rig = 0; rig < 4; rig++) {
            x.ship(rig, 0);
        }
        Check.habits(x, 0, "lean up 1 if rig=1; lean up 2 if rig=2 and year=3; lean up 3 if rig=3 and year>8; lean up 4 if spars>0;");
        int[][] due = {
            // ship, watch, written for 5
            {0, 300, 5}, {1, 0, 6}, {1, 999, 6}, {2, 299, 5}, {2, 300, 7}, {2, 399, 7}, {2, 400, 5}, {3, 899, 5}, {3, 900, 8},
        };
        for (int[] d : due) {
            same("14: ship " + d[0] + " on " + d[1], x.blow(d[0], d[1], 0, 40, 0), d[2]);
            same("15: ship " + d[0] + " on " + d[1], x.run(d[0], d[1], 0, 1000, d[2]), windsFrom(0, 1000, 40, 47));
        }
    }

    /** How many winds of a RUN are from low to high. */
    private static int windsFrom(int seed, int n, int low, int high) {
        long z = seed;
        int found = 0;
        for (int k = 0; k < n; k++) {
            z = z * 6364136223846793005L + 1442695040888963407L;
            long wind = (z >>> 33) % 100;
            found += low <= wind && wind <= high ? 1 : 0;
        }
        return found;
    }

    private static void leansHeldAtTheEnds() {
        WindWords x = Check.crew(1);
        Check.habits(x, 0, "lean up 12 if number>0; write 7 for 12;");
        same("14: 1 becomes 12, not 13", x.blow(0, 0, 0, 8, 0), 7);
        same("14: 12 stays", x.blow(0, 0, 0, 99, 0), 7);
        same("14: 0 doesn't lean", x.blow(0, 0, 0, 7, 0), 0);
        Check.habits(x, 0, "lean down 12 if number<12; write 8 for 0;");
        same("14: 11 becomes 0", x.blow(0, 0, 0, 95, 0), 8);
        same("14: 0 stays", x.blow(0, 0, 0, 0, 0), 8);
        same("14: 12 doesn't lean", x.blow(0, 0, 0, 96, 0), 12);
    }

    private static void runByRigAndWinds() {
        WindWords x = new WindWords();
        x.officer();
        x.ship(1, 0);
        x.ship(3, 0);
        Check.scale(x, "canvas 4 from 1 if rig=1 and depth=0; canvas 6 from 99 if rig=3 and depth=0;", 0);
        Check.habits(x, 0, "lean up 2 if rig=1; write 11 for 2;");
        same("15: wind 0 reads 0 and is written", x.run(0, 0, 9, 1000, 11), windsFrom(9, 1000, 0, 0));
        same("15: from wind 1 on", x.run(0, 0, 9, 1000, 6), windsFrom(9, 1000, 1, 99));
        same("15: wind 99 alone", x.run(1, 0, 9, 1000, 6), windsFrom(9, 1000, 99, 99));
        same("15: below it", x.run(1, 0, 9, 1000, 0), windsFrom(9, 1000, 0, 98));
        same("15: there are such winds", windsFrom(9, 1000, 0, 0) > 0 && windsFrom(9, 1000, 99, 99) > 0 ? 1 : 0, 1);
    }

    private static void columnsOfOneWind() {
        WindWords x = new WindWords();
        Check.scale(x, "sea 1 from 1; sea 2 from 2; sea 12 from 99; leaf 3 from 0;", 0);
        int[][] due = {{0, 0, 0}, {1, 1, 1}, {2, 2, 98}, {12, 99, 99}, {3, -1, -1}};
        for (int[] d : due) {
            same("16: least of " + d[0], x.column(0, 1, 0, d[0], 0), d[1]);
            same("16: greatest of " + d[0], x.column(0, 1, 0, d[0], 1), d[2]);
        }
        same("16: never 0", x.column(0, 2, 0, 0, 0), -1);
        same("16: from 0", x.column(0, 2, 0, 3, 0), 0);
        same("16: a greater NUMBER hides a lesser one", x.column(0, 1, 0, 1, 1), 1);
    }

    private static void turned(WindWords x, int number, int other, int... due) {
        for (int what = 0; what < 4; what++) {
            same("17: turn(0, 0, " + number + ", " + other + ", " + what + ")", x.turn(0, 0, number, other, what), due[what]);
        }
    }

    /** Bare 5 is 40 to 47. */
    private static void turnedByOneWind() {
        WindWords x = new WindWords();
        Check.scale(x, "canvas 3 from 41; canvas 7 from 47;", 1);
        turned(x, 5, 1, 0, 7, 3, 2);
        Check.scale(x, "canvas 9 from 44;", 2);
        turned(x, 5, 2, 0, 9, 0, 4);
        Check.scale(x, "canvas 9 from 43;", 3);
        turned(x, 5, 3, 0, 9, 9, 3);
        Check.scale(x, "canvas 4 from 40; canvas 11 from 42; canvas 12 from 45;", 4);
        turned(x, 5, 4, 4, 12, 11, 5);
        turned(x, 12, 4, 12, 12, 12, 0);
        turned(x, 0, 4, 0, 0, 0, 0);
    }

    private static void turnedForRigAndDepthNone() {
        WindWords x = new WindWords();
        Check.scale(x, "canvas 5 from 20 if rig=0 and depth=0; canvas 9 from 20 if rig>0 or depth>0;", 0);
        Check.scale(x, "canvas 2 from 20 if rig=0 and depth=0; canvas 7 from 20 if rig>0 or depth>0;", 1);
        turned(x, 5, 1, 2, 2, 2, 0);
        turned(x, 9, 1, -1, -1, -1, -1);
        turned(x, 0, 1, 0, 0, 0, 0);
    }

    /** Two readings of one wind agree, if they differ by twice the ERROR at most. */
    private static void tightAtTwiceTheError() {
        for (int error = 0; error <= 5; error++) {
            for (int more = 0; more <= 12; more++) {
                WindWords x = Check.crew(2);
                x.set(0, error);
                x.read(0, 0, 0, 0, 0);
                x.read(1, 0, 0, 3, 50);
                x.read(0, 1, 0, 0, more);
                x.read(1, 1, 0, 3, 50);
                boolean agrees = more <= 2 * error;
                same("18: error " + error + ", differing by " + more, x.tight(), agrees ? 1 : 0);
                same("19: least", x.lean(0, 0), agrees ? more - 6 - error : -2000);
                same("19: greatest", x.lean(0, 1), agrees ? error - 6 : -2000);
                same("19: of the other", x.lean(1, 0), agrees ? -1000 : -2000);
            }
        }
    }

    private static void tightBetweenTwo() {
        for (int error = 0; error <= 5; error++) {
            for (int more = 0; more <= 12; more++) {
                WindWords x = Check.crew(3);
                x.set(1, error);
                x.read(0, 0, 0, 0, 0);
                x.read(1, 0, 100, 1, 0);
                x.read(0, 1, 0, 2, 0);
                x.read(1, 1, 100, 0, more);
                boolean agrees = more <= 2 * error;
                same("18: error " + error + ", two that differ by 0 and " + more, x.tight(), agrees ? 1 : 0);
                same("19: bound on no side", x.lean(0, 1), agrees ? 1000 : -2000);
                x.read(0, 2, 0, 0, 6);
                x.read(2, 2, 0, 3, 50);
                same("19: the other's least", x.lean(1, 0), agrees ? more - 2 * error : -2000);
                same("19: the other's greatest", x.lean(1, 1), agrees ? 2 * error : -2000);
            }
        }
    }

    /** A chain of sixteen, each one more than the one before, the first beside a cup. */
    private static void leanThroughAllOfficers() {
        WindWords x = Check.crew(16);
        x.set(0, 5);
        for (int k = 0; k < 4; k++) {
            x.signs(0, 12 + k, 100 + 100 * k);
        }
        x.read(0, 0, 0, 0, 12);
        x.read(1, 0, 0, 3, 0);
        for (int k = 0; k < 11; k++) {
            x.read(k, 1 + k, 0, 0, 0);
            x.read(k + 1, 1 + k, 0, 0, 12);
        }
        for (int k = 0; k < 4; k++) {
            // the one that signs for ship 0 then, beside the one of the chain's end or the next ship of it
            x.read(0, 100 + 100 * k, 0, 0, 12);
            x.read(11 - k, 100 + 100 * k, 0, 0, 0);
        }
        for (int k = 0; k < 12; k++) {
            same("19: least of " + k, x.lean(k, 0), 12 * (k + 1) - 5 * (k + 1));
            same("19: greatest of " + k, x.lean(k, 1), 12 * (k + 1) + 5 * (k + 1));
        }
        for (int k = 0; k < 4; k++) {
            same("19: least of " + (12 + k), x.lean(12 + k, 0), 7 * (12 - k + 1));
            same("19: greatest of " + (12 + k), x.lean(12 + k, 1), 17 * (12 - k + 1));
        }
        same("18: all agree", x.tight(), 1);
        same("21: held to 0", x.wind(4, 1), 0);
        same("21: held to 0", x.wind(4, 2), 7);
    }

    private static void windOfTheLastOfficer() {
        WindWords x = new WindWords();
        for (int k = 0; k < 16; k++) {
            x.officer();
        }
        x.ship(0, 15);
        x.ship(0, 0);
        x.set(0, 0);
        x.read(0, 0, 0, 0, 6);
        x.read(1, 0, 0, 3, 40);
        same("19: the sixteenth's", x.lean(15, 0), 1);
        same("19: the sixteenth's", x.lean(15, 1), 1);
        same("21: by it", x.wind(0, 0), 1);
        same("21: least", x.wind(0, 1), 40);
        same("21: greatest", x.wind(0, 2), 47);
        x.read(0, 999, 0, 0, 12);
        same("21: in the last year", x.wind(9, 1), 88);
        same("21: in the last year", x.wind(9, 2), 95);
        same("22: of both years", x.grew(0), 1);
        x.trust(15, false);
        same("21: not trusted", x.wind(0, 0), 0);
        same("21: not trusted", x.wind(0, 1), -1);
    }

    private static void oddsOfAllNumbers() {
        int[] numbers = {0, 12, 3, 3};
        WindWords x = Check.crew(2);
        for (int k = 0; k < numbers.length; k++) {
            x.read(0, k, 0, k % 3, numbers[k]);
        }
        same("20: 0 and 12 are of all", x.liked(0, 2, 3), 316406250);
        same("20: beside 0", x.liked(0, 1, 3), 586181640);
        same("20: beside 12", x.liked(0, 11, 3), 586181640);
        same("20: beside 0 is one", x.liked(0, 1, 1), 1);
        same("20: beside 12 is one", x.liked(0, 11, 1), 1);
        same("20: of the other one none", x.liked(1, 4, 3), -1);
        x = Check.crew(1);
        for (int k = 0; k < 29; k++) {
            x.read(0, k, 0, 0, 4);
        }
        same("20: halved 29 times", x.liked(0, 5, 3), 1);
        x.read(0, 29, 0, 0, 4);
        same("20: halved 30 times", x.liked(0, 3, 3), 0);
        for (int k = 30; k < 300; k++) {
            x.read(0, k, 0, 0, 12);
        }
        // 600 less 270 by 600
        same("20: three hundred", x.liked(0, 11, 3), 0);
        same("20: none beside", x.liked(0, 8, 3), 1000000000);
    }

    /** A year of few readings against one of many. */
    private static void grewByMeans() {
        WindWords x = Check.crew(2);
        x.set(0, 0);
        x.read(1, 0, 0, 3, 40);
        x.read(0, 0, 0, 0, 5);
        for (int k = 0; k < 4; k++) {
            x.read(0, 110 + k, 0, 0, 4);
        }
        same("22: the many are less", x.grew(0), 0);
        x.read(0, 200, 0, 0, 5);
        same("22: more than those before, but alike with the first", x.grew(0), 1);
        x.read(0, 201, 0, 0, 6);
        same("22: more than both", x.grew(0), 2);
        same("22: orders of three", x.grew(1), 3);
        same("22: all of three", x.grew(2), 6);
        same("22: years", x.grew(3), 3);
        same("21: four of them", x.wind(1, 0), 4);
    }

    private static void lateByCupsAtTheEnds() {
        WindWords x = Check.crew(2);
        Check.scale(x, "sea 4 from 0; sea 9 from 99;", 0);
        x.read(0, 9, 6300, 1, 12);
        x.read(1, 0, 6300, 3, 99);
        same("23: lag 9 from watch 0", x.late(29), 1);
        same("23: wind 99", x.late(19), 3);
        same("23: the lag", x.late(0), 9);
        x.read(0, 10, 6300, 1, 12);
        same("23: a lag of ten is none", x.late(29), 1);
        x.read(1, 10, 6300, 3, 0);
        same("23: lag 0", x.late(20), 1);
        same("23: wind 0", x.late(10), 8);
        same("23: still the lag", x.late(0), 9);
        x.read(1, 999, 0, 3, 50);
        x.read(0, 999, 0, 1, 4);
        same("23: the last watch", x.late(20), 2);
        same("23: four by one less than eight by two", x.late(0), 9);
        x.read(0, 500, 0, 1, 4);
        x.read(1, 500, 0, 3, 50);
        same("23: eight by three is less", x.late(0), 0);
        x.read(1, 502, 0, 3, 50);
        same("23: a cup behind it tells nothing", x.late(22), 0);
        // the cup of watch 9's own ship there is a sea
        same("23: of the same ship none", x.late(21), 0);
    }

    private static void copiedBesideTheFirstShip() {
        WindWords x = Check.crew(3);
        x.read(1, 1, 0, 0, 4);
        x.read(1, 2, 0, 1, 4);
        x.read(0, 1, 900, 2, 5);
        x.read(0, 2, 100, 0, 7);
        same("24: the first ship's tell it", x.copied(1, 2), 1);
        same("12: of the later one", x.reading(1, 8), 1);
        same("25: found", x.find(0), 1);
        x = Check.crew(3);
        x.read(1, 1, 0, 0, 4);
        x.read(1, 2, 0, 0, 4);
        x.read(2, 1, 0, 0, 7);
        x.read(2, 2, 0, 0, 5);
        same("24: the last ship's tell it, falling by two", x.copied(1, 2), 1);
    }

    private static void copiedAtTheEnds() {
        for (int watch : new int[] {1, 100, 999}) {
            for (int differs = 0; differs <= 12; differs++) {
                WindWords x = Check.crew(2);
                x.read(0, watch - 1, 0, 0, 4);
                x.read(0, watch, 0, 0, 4);
                x.read(1, watch - 1, 0, 0, 12);
                x.read(1, watch, 0, 0, 12 - differs);
                same("24: differing by " + differs + " on " + watch, x.copied(0, 2), differs >= 2 ? 1 : 0);
                same("24: successive", x.copied(0, 0), 1);
                x.set(0, 0);
                same("24: in one cell", x.copied(0, 2), differs >= 2 ? 1 : 0);
            }
        }
        WindWords x = Check.crew(2);
        x.read(0, 0, 0, 0, 4);
        x.read(0, 999, 0, 0, 4);
        same("24: the first isn't behind the last", x.copied(0, 0), 0);
        same("12: nor copied", x.reading(0, 8), 0);
    }

    /** Those with no other one IN SIGHT are none of the first twelve. */
    private static void wishedAmongThoseAlone() {
        WindWords x = Check.crew(2);
        for (int k = 0; k < 40; k++) {
            x.read(0, k, Check.spot(0, 0, k % 2), 0, 9);
        }
        same("26: none", x.wished(0, 3), 0);
        same("26: one way to take none", x.wished(0, 1), 1);
        for (int k = 13; k < 40; k += 2) {
            x.read(1, k, 0, 0, k == 13 ? 4 : k >= 37 ? 0 : 8);
        }
        same("26: twelve of fourteen", x.wished(0, 3), 12);
        same("26: all of them with spars", x.wished(0, 1), 1);
        same("26: against none", x.wished(0, 2), 0);
        x.read(1, 0, 0, 0, 7);
        same("26: one without comes before them", x.wished(0, 3), 12);
        same("26: twelve ways", x.wished(0, 1), 12);
        // ten above by 1 and one by 5, times one, less 2 times eleven
        same("26: lead", x.wished(0, 2), 15 - 22);
        same("26: as much at least, whichever but the last is left out", x.wished(0, 0), 11);
    }

    private static void imagesAtTheEnds() {
        WindWords x = Check.crew(16);
        x.trust(15, false);
        x.set(7, 5);
        for (int k = 0; k < 3; k++) {
            same("31: image", x.image(), k);
            x.read(0, k, 0, 0, 0);
        }
        x.trust(15, true);
        x.trust(0, false);
        x.set(0, 0);
        same("31: the last one", x.image(), 3);
        same("32: none behind it", x.back(4), -1);
        same("32: the second last", x.back(2), 1);
        same("33: who was trusted then", x.count(7), 15);
        same("33: sight then", x.count(4), 7);
        same("33: error then", x.count(5), 5);
        same("32: there are fewer than in the last", x.back(3), -1);
        same("33: nothing done", x.count(4), 7);
        same("33: who is trusted stays", x.count(7), 15);
        same("7: again as many", x.read(0, 2, 0, 0, 0), 2);
        same("32: then it can be", x.back(3), 0);
        same("33: sight of the last", x.count(4), 0);
        same("33: error of the last", x.count(5), 0);
        same("33: the first isn't trusted", x.count(7), 15);
        same("32: to the first one", x.back(0), 3);
        same("33: no readings", x.count(2), 0);
        same("33: refused", x.count(8), 2);
    }
}
