import java.util.function.Consumer;

/** A call that is refused does nothing but count: two objects, one without that call, answer alike from then on. */
public final class RefusedTest {
    private static final Check CHECK = new Check("RefusedTest");
    private static final int WRONG = 0;
    private static final int FULL = 1;
    private static final int FAULTY = 2;
    private static final int NONE = 3;

    public static void main(String[] args) {
        notAsTold();
        noMoreRoom();
        faults();
        notRefused();
        reasonsInTheirOrder();
        roomAgain();
        CHECK.end();
    }

    /** Three officers and ships, readings of all kinds, a scale, habits, an image, a storm, bytes on the tape. */
    private static void tell(WindWords x) {
        for (int k = 0; k < 3; k++) {
            x.officer();
            x.ship(k, k);
        }
        x.signs(0, 1, 40);
        x.read(0, 10, 1234, 0, 5);
        x.read(1, 10, 1302, 1, 7);
        x.read(2, 10, 1400, 3, 48);
        x.read(0, 11, 1211, 2, 5);
        x.read(1, 11, 1300, 0, 9);
        x.read(0, 50, 900, 1, 3);
        x.image();
        x.read(1, 150, 900, 1, 4);
        x.read(2, 150, 900, 3, 30);
        Check.scale(x, "canvas 3 from 10; canvas 7 from 40 if rig=0 or depth>2; sea 6 from 20;", 1);
        Check.habits(x, 1, "lean up 2 if number>3; write 9 for 0;");
        Check.scale(x, "sea", 0);
        x.storm(9, 12, 2, 6);
        Check.feed(x, "leaf 2 from 3; leaf");
    }

    /** The answers of some 250 calls, the last of which tell something more. */
    private static int[] answers(WindWords x) {
        int[] found = new int[300];
        int n = 0;
        for (int k : new int[] {0, 1, 2, 3, 4, 5, 6, 7, 11, 12, 13}) {
            found[n++] = x.count(k);
        }
        found[n++] = x.fault();
        found[n++] = x.tight();
        for (int k = 0; k < 10; k++) {
            for (int what : new int[] {0, 1, 2, 4, 7, 8}) {
                found[n++] = x.reading(k, what);
            }
            found[n++] = x.reads(k, k % 3, 45, 3);
            found[n++] = x.wind(k, 0);
            found[n++] = x.late(10 + k);
            found[n++] = x.way(5 + k, -1);
        }
        for (int k = 0; k < 4; k++) {
            found[n++] = x.lean(k, 0);
            found[n++] = x.lean(k, 1);
            found[n++] = x.blow(k, 10, 0, 45, 0);
            found[n++] = x.blow(k, 60, 0, 45, 0);
            found[n++] = x.blow(k, 999, 1, 0, 0);
            found[n++] = x.copied(k, 0);
            found[n++] = x.wished(k, 2);
            found[n++] = x.liked(k, 4, 1);
            found[n++] = x.eight(5, 40, 1, k);
            found[n++] = x.grew(k);
            found[n++] = x.alike(k - 1);
        }
        n = answersTelling(x, found, n);
        CHECK.same("answers", n < found.length, true);
        return found;
    }

    private static int answersTelling(WindWords x, int[] found, int from) {
        int n = from;
        found[n++] = x.scale(x.count(12) > 0 ? 14 : 0, 5);
        found[n++] = x.reads(5, 2, 3, 0);
        found[n++] = x.count(12);
        found[n++] = x.officer();
        found[n++] = x.ship(1, 0);
        found[n++] = x.signs(0, 0, 41);
        found[n++] = x.signs(1, 0, 1);
        found[n++] = x.read(0, 20, 0, 0, 5);
        found[n++] = x.image();
        found[n++] = x.back(0);
        for (int k : new int[] {0, 1, 2, 3, 4, 5, 6, 7, 11, 12, 13}) {
            found[n++] = x.count(k);
        }
        return n;
    }

    /** What a call changes: the count of one reason alone, or none. */
    private static void changes(String what, Consumer<WindWords> told, Consumer<WindWords> call, int reason) {
        WindWords x = new WindWords();
        WindWords y = new WindWords();
        told.accept(x);
        told.accept(y);
        call.accept(x);
        for (int k = 0; k < 3; k++) {
            CHECK.same(what + ": count(" + (8 + k) + ")", x.count(8 + k), y.count(8 + k) + (k == reason ? 1 : 0));
        }
        int[] its = answers(x);
        int[] others = answers(y);
        for (int k = 0; k < its.length; k++) {
            CHECK.same(what + ": answer " + k + " afterwards", its[k], others[k]);
        }
    }

    private static void wrong(String what, Consumer<WindWords> call) {
        changes(what, RefusedTest::tell, call, WRONG);
    }

    private static void notAsTold() {
        for (int k : new int[] {-1, 3, Integer.MIN_VALUE, Integer.MAX_VALUE}) {
            wrong("3: of officer " + k, x -> x.ship(0, k));
            wrong("4: ship " + k, x -> x.signs(k, 0, 700));
            wrong("4: officer " + k, x -> x.signs(0, k, 700));
            wrong("5: officer " + k + " trusted", x -> x.trust(k, true));
            wrong("5: officer " + k + " not", x -> x.trust(k, false));
            wrong("7: ship " + k, x -> x.read(k, 700, 0, 0, 0));
            wrong("10: officer " + k, x -> x.habits(k, 0));
            wrong("32: image " + k, x -> x.back(k == 3 ? 1 : k));
        }
        wrong("3: rig -1", x -> x.ship(-1, 0));
        wrong("3: rig 4", x -> x.ship(4, 0));
        for (int watch : new int[] {-1, 0, 39, 40, 1000, Integer.MIN_VALUE, Integer.MAX_VALUE}) {
            wrong("4: watch " + watch, x -> x.signs(0, 2, watch));
        }
        wrong("4: watch 0 of a ship for which nobody else signed", x -> x.signs(2, 0, 0));
        wrong("6: sight -1", x -> x.set(-1, 3));
        wrong("6: sight 8", x -> x.set(8, 3));
        wrong("6: error -1", x -> x.set(3, -1));
        wrong("6: error 6", x -> x.set(3, 6));
        wrong("7: watch -1", x -> x.read(0, -1, 0, 0, 0));
        wrong("7: watch 1000", x -> x.read(0, 1000, 0, 0, 0));
        wrong("7: spot -1", x -> x.read(0, 700, -1, 0, 0));
        wrong("7: spot 6400", x -> x.read(0, 700, 6400, 0, 0));
        wrong("7: kind -1", x -> x.read(0, 700, 0, -1, 0));
        wrong("7: kind 4", x -> x.read(0, 700, 0, 4, 0));
        for (int kind = 0; kind < 4; kind++) {
            int its = kind;
            wrong("7: below, kind " + kind, x -> x.read(0, 700, 0, its, -1));
            wrong("7: above, kind " + kind, x -> x.read(0, 700, 0, its, its == 3 ? 100 : 13));
            wrong("7: one is there, kind " + kind, x -> x.read(2, 150, 0, its, 1));
        }
        wrong("9: n -1", x -> x.scale(-1, 0));
        wrong("9: n 21", x -> x.scale(21, 0));
        wrong("9: year -1", x -> x.scale(14, -1));
        wrong("9: year 10", x -> x.scale(14, 10));
        wrong("10: n -1", x -> x.habits(0, -1));
        wrong("10: n 21", x -> x.habits(1, 21));
    }

    private static void noMoreRoom() {
        changes("2: sixteen are there", x -> {
            tell(x);
            for (int k = 3; k < 16; k++) {
                x.officer();
            }
        }, x -> x.officer(), FULL);
        changes("3: twelve are there", x -> {
            tell(x);
            for (int k = 3; k < 12; k++) {
                x.ship(3, 2);
            }
        }, x -> x.ship(1, 1), FULL);
        changes("4: sixty were told", x -> {
            tell(x);
            for (int k = 1; k < 60; k++) {
                x.signs(2, k % 3, 5 * k);
            }
        }, x -> x.signs(0, 2, 41), FULL);
        changes("9: eight are there", x -> {
            tell(x);
            Check.feed(x, "leaf 2 from 3; leaf");
            for (int k = 1; k < 8; k++) {
                x.scale(0, 9);
            }
            Check.feed(x, "leaf 2 from 3; leaf");
        }, x -> x.scale(14, 0), FULL);
        changes("31: four are there", x -> {
            tell(x);
            for (int k = 1; k < 4; k++) {
                x.image();
            }
        }, x -> x.image(), FULL);
        threeHundred();
    }

    private static void threeHundred() {
        WindWords x = Check.crew(2);
        for (int k = 0; k < 300; k++) {
            x.read(0, k, 0, k % 3, k % 13);
        }
        CHECK.same("7: three hundred are there", x.read(1, 5, 0, 3, 40), -1);
        CHECK.same("7: refused", x.count(9), 1);
        CHECK.same("7: as many as there were", x.count(2), 300);
        CHECK.same("7: none more", x.reading(300, 0), -1);
        CHECK.same("7: nothing beside another one", x.eight(0, 0, 1, 0), 0);
        CHECK.same("7: nothing late", x.late(20), 0);
        CHECK.same("7: the last one stays", x.reading(299, 1), 299);
    }

    /** With a FAULT the tape is empty, and the fault's place is told; all else stays. */
    private static void faults() {
        Consumer<WindWords> none = x -> {
            tell(x);
            x.habits(2, 0);
        };
        changes("9: a fault", none, x -> {
            Check.feed(x, "canvas 12 from 0 if rig<0; canvas 13");
            x.scale(36, 0);
            CHECK.same("11: its place", x.fault(), 34);
            CHECK.same("9: the tape is empty", x.count(12), 0);
            x.habits(2, 0);
        }, FAULTY);
        changes("10: a fault", none, x -> {
            Check.feed(x, "write 1 for 2; lean up 12; write 13");
            x.habits(1, 35);
            CHECK.same("11: its place", x.fault(), 33);
            CHECK.same("10: the tape is empty", x.count(12), 0);
            x.habits(2, 0);
        }, FAULTY);
    }

    /** A feed that would be too much, a storm not as told, and all that only asks. */
    private static void notRefused() {
        changes("8: more than 900", x -> {
            tell(x);
            while (x.count(12) <= 880) {
                x.feed(0x20202020, 0, 0, 0, 0);
            }
        }, x -> CHECK.same("8: none", x.feed(1, 2, 3, 4, 5), -1), NONE);
        int[][] storms = {{-1, 0, 0, 0}, {0, 1000, 0, 0}, {5, 4, 0, 0}, {0, 60, 0, 0}, {0, 0, -1, 0}, {0, 0, 8, 0}, {0, 0, 0, -1}, {0, 0, 0, 13}};
        for (int[] s : storms) {
            changes("29: storm(" + s[0] + ", " + s[1] + ", " + s[2] + ", " + s[3] + ")", RefusedTest::tell,
                    x -> CHECK.same("29: none", x.storm(s[0], s[1], s[2], s[3]), -1), NONE);
        }
        changes("12 to 30: asked", RefusedTest::tell, x -> {
            for (int k : new int[] {-1, 0, 1, 99999}) {
                Check.askAll(x, k, k);
            }
        }, NONE);
    }

    /** Not as told comes before no more room, and that before a fault. */
    private static void reasonsInTheirOrder() {
        WindWords x = Check.crew(16);
        for (int k = 1; k <= 60; k++) {
            x.signs(k % 12, k % 16, k);
        }
        for (int k = 0; k < 8; k++) {
            x.scale(0, k);
        }
        int n = Check.feed(x, "no text");
        CHECK.same("3: wrong and full", x.ship(4, 0), -1);
        CHECK.same("4: wrong and full", x.signs(12, 0, 900), -1);
        CHECK.same("4: wrong watch and full", x.signs(0, 0, 60), -1);
        CHECK.same("9: wrong, full and faulty", x.scale(n, 10), -2);
        CHECK.same("9: wrong n, full and faulty", x.scale(21, 0), -2);
        CHECK.same("10: wrong and faulty", x.habits(16, n), -2);
        CHECK.same("33: all of them not as told", x.count(8), 6);
        CHECK.same("33: none for want of room", x.count(9), 0);
        CHECK.same("9: full and faulty", x.scale(n, 0), -3);
        CHECK.same("33: for want of room", x.count(9), 1);
        CHECK.same("33: not for its fault", x.count(10), 0);
        CHECK.same("10: faulty", x.habits(15, n), -1);
        CHECK.same("33: for its fault", x.count(10), 1);
        CHECK.same("33: still not as told", x.count(8), 6);
    }

    /** What is brought back makes room for readings, and for nothing else. */
    private static void roomAgain() {
        WindWords x = Check.crew(1);
        for (int k = 0; k < 299; k++) {
            x.read(0, k, 0, 0, 1);
        }
        x.image();
        CHECK.same("7: the last one", x.read(0, 299, 0, 0, 2), 299);
        CHECK.same("7: no more", x.read(0, 300, 0, 0, 2), -1);
        CHECK.same("32: one is gone", x.back(0), 1);
        CHECK.same("7: room for one", x.read(0, 300, 0, 0, 2), 299);
        CHECK.same("7: for one alone", x.read(0, 299, 0, 0, 2), -1);
        CHECK.same("33: twice refused", x.count(9), 2);
        x = Check.crew(2);
        x.image();
        for (int k = 1; k <= 60; k++) {
            x.signs(0, k % 2, k);
        }
        CHECK.same("32: none are gone", x.back(0), 0);
        CHECK.same("4: still sixty", x.signs(1, 0, 1), -1);
        for (int k = 0; k < 3; k++) {
            x.image();
        }
        CHECK.same("32: back again", x.back(0), 0);
        CHECK.same("31: still four", x.image(), -1);
    }
}
