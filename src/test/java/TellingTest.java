/** Promises 1 to 8 and 31 to 33: what is told, what is refused, images, counts. */
public final class TellingTest {
    private static final Check CHECK = new Check("TellingTest");

    public static void main(String[] args) {
        newObject();
        officer();
        ship();
        signs();
        signsHaveRoomForSixty();
        trust();
        set();
        read();
        readHasRoomForThreeHundred();
        feed();
        image();
        back();
        backFreesTheWatches();
        backNeedsAsManyReadings();
        count();
        CHECK.end();
    }

    private static void same(String what, long got, long want) {
        CHECK.same(what, got, want);
    }

    /** What was refused so far: told wrong, without room, faulty. */
    private static void refused(String what, WindWords x, int wrong, int full, int faulty) {
        same(what + ": refused as not as told", x.count(8), wrong);
        same(what + ": refused for want of room", x.count(9), full);
        same(what + ": refused for a fault", x.count(10), faulty);
    }

    private static void newObject() {
        WindWords x = new WindWords();
        for (int k = 0; k <= 13; k++) {
            same("1: count(" + k + ") at first", x.count(k), k == 4 || k == 5 ? 1 : 0);
        }
        same("1: fault()", x.fault(), -1);
        same("1: reading", x.reading(0, 0), -1);
        same("1: a bare scale", x.reads(0, 0, 99, 0), 12);
        same("1: tight()", x.tight(), 1);
        same("1: lean", x.lean(0, 0), -2000);
        same("1: liked", x.liked(0, 1, 0), -200);
        same("1: wind", x.wind(0, 0), 0);
        same("1: grew", x.grew(3), 0);
        same("1: late", x.late(0), -1);
        same("1: copied", x.copied(0, 0), -1);
        same("1: find", x.find(0), -1);
        same("1: wished", x.wished(0, 0), -1000000);
        same("1: eight", x.eight(0, 0, 1, 0), 0);
        same("1: alike", x.alike(-1), -1);
        same("1: way", x.way(0, 0), -1);
        same("1: back", x.back(0), -1);
    }

    private static void officer() {
        WindWords x = new WindWords();
        for (int k = 0; k < 16; k++) {
            same("2: officer", x.officer(), k);
        }
        same("2: the seventeenth", x.officer(), -1);
        same("2: officers", x.count(0), 16);
        refused("2", x, 0, 1, 0);
        same("2: trusted at first", x.count(7), 16);
    }

    private static void ship() {
        WindWords x = new WindWords();
        same("3: without an officer", x.ship(0, 0), -1);
        x.officer();
        same("3: rig below", x.ship(-1, 0), -1);
        same("3: rig above", x.ship(4, 0), -1);
        same("3: officer below", x.ship(0, -1), -1);
        same("3: officer above", x.ship(0, 1), -1);
        refused("3: wrong", x, 5, 0, 0);
        for (int k = 0; k < 12; k++) {
            same("3: ship", x.ship(k % 4, 0), k);
        }
        same("3: the thirteenth", x.ship(0, 0), -1);
        refused("3: full", x, 5, 1, 0);
        same("3: wrong comes before full", x.ship(4, 0), -1);
        refused("3: wrong and full", x, 6, 1, 0);
        same("3: ships", x.count(1), 12);
    }

    private static void signs() {
        WindWords x = Check.crew(3);
        same("4: no such ship", x.signs(3, 0, 5), -1);
        same("4: ship below", x.signs(-1, 0, 5), -1);
        same("4: no such officer", x.signs(0, 3, 5), -1);
        same("4: officer below", x.signs(0, -1, 5), -1);
        same("4: from watch 0 one signs already", x.signs(0, 1, 0), -1);
        same("4: watch below", x.signs(0, 1, -1), -1);
        same("4: watch above", x.signs(0, 1, 1000), -1);
        refused("4: wrong", x, 7, 0, 0);
        same("4: from watch 1", x.signs(0, 1, 1), 1);
        same("4: the same watch again", x.signs(0, 2, 1), -1);
        same("4: a later one", x.signs(0, 2, 10), 2);
        same("4: an earlier one", x.signs(0, 2, 9), -1);
        same("4: of another ship", x.signs(1, 2, 5), 3);
        same("4: the last watch", x.signs(2, 0, 999), 4);
        refused("4: wrong again", x, 9, 0, 0);
        same("4: told", x.count(6), 4);
        int[] watches = {0, 1, 9, 10, 999};
        int[] officers = {0, 1, 1, 2, 2};
        for (int k = 0; k < watches.length; k++) {
            same("4: read", x.read(0, watches[k], 0, 0, 0), k);
            same("4: officer on watch " + watches[k], x.reading(k, 7), officers[k]);
        }
        x.read(2, 998, 0, 0, 0);
        x.read(2, 999, 0, 0, 0);
        same("4: up to the last but one", x.reading(5, 7), 2);
        same("4: on the last", x.reading(6, 7), 0);
    }

    private static void signsHaveRoomForSixty() {
        WindWords x = Check.crew(2);
        for (int k = 1; k <= 60; k++) {
            same("4: time " + k, x.signs(k % 2, k / 2 % 2, k), k);
        }
        same("4: the sixty-first", x.signs(0, 0, 500), -1);
        refused("4: full", x, 0, 1, 0);
        same("4: wrong comes before full", x.signs(0, 0, 5), -1);
        refused("4: wrong and full", x, 1, 1, 0);
        same("4: sixty", x.count(6), 60);
    }

    private static void trust() {
        WindWords x = Check.crew(2);
        CHECK.same("5: none such", x.trust(2, true), false);
        CHECK.same("5: below", x.trust(-1, false), false);
        refused("5", x, 2, 0, 0);
        same("5: both", x.count(7), 2);
        CHECK.same("5: not", x.trust(1, false), true);
        same("5: one", x.count(7), 1);
        CHECK.same("5: not again", x.trust(1, false), true);
        same("5: still one", x.count(7), 1);
        CHECK.same("5: again", x.trust(1, true), true);
        same("5: both again", x.count(7), 2);
        refused("5: after", x, 2, 0, 0);
    }

    private static void set() {
        WindWords x = new WindWords();
        CHECK.same("6: sight below", x.set(-1, 0), false);
        CHECK.same("6: sight above", x.set(8, 0), false);
        CHECK.same("6: error below", x.set(0, -1), false);
        CHECK.same("6: error above", x.set(0, 6), false);
        refused("6", x, 4, 0, 0);
        same("6: sight stays", x.count(4), 1);
        same("6: error stays", x.count(5), 1);
        CHECK.same("6: most", x.set(7, 5), true);
        same("6: sight", x.count(4), 7);
        same("6: error", x.count(5), 5);
        CHECK.same("6: least", x.set(0, 0), true);
        same("6: sight 0", x.count(4), 0);
        same("6: error 0", x.count(5), 0);
    }

    private static void read() {
        WindWords x = Check.crew(2);
        int[][] wrong = {
            {2, 0, 0, 0, 0}, {-1, 0, 0, 0, 0}, {0, -1, 0, 0, 0}, {0, 1000, 0, 0, 0}, {0, 0, -1, 0, 0},
            {0, 0, 6400, 0, 0}, {0, 0, 0, -1, 0}, {0, 0, 0, 4, 0}, {0, 0, 0, 0, -1}, {0, 0, 0, 0, 13},
            {0, 0, 0, 1, 13}, {0, 0, 0, 2, 13}, {0, 0, 0, 3, -1}, {0, 0, 0, 3, 100},
        };
        for (int k = 0; k < wrong.length; k++) {
            int[] w = wrong[k];
            same("7: wrong one " + k, x.read(w[0], w[1], w[2], w[3], w[4]), -1);
        }
        refused("7", x, wrong.length, 0, 0);
        same("7: none", x.count(2), 0);
        same("7: first", x.read(0, 0, 0, 0, 0), 0);
        same("7: last", x.read(1, 999, 6399, 2, 12), 1);
        same("7: cup", x.read(0, 1, 1234, 3, 99), 2);
        same("7: of that ship and watch", x.read(0, 1, 0, 0, 0), -1);
        refused("7: one is there", x, wrong.length + 1, 0, 0);
        same("7: of another ship", x.read(1, 1, 0, 1, 12), 3);
        int[][] all = {{0, 0, 0, 0, 0, 0, 0, 0, 0}, {1, 999, 63, 2, 12, 9, 9, 1, 0}, {0, 1, 12, 3, 99, 3, 4, 0, 0}};
        for (int k = 0; k < all.length; k++) {
            for (int what = 0; what < 9; what++) {
                same("12: reading(" + k + ", " + what + ")", x.reading(k, what), all[k][what]);
            }
        }
        same("12: what below", x.reading(0, -1), -1);
        same("12: what above", x.reading(0, 9), -1);
        same("12: none such", x.reading(4, 0), -1);
        same("12: below", x.reading(-1, 0), -1);
    }

    private static void readHasRoomForThreeHundred() {
        WindWords x = Check.crew(1);
        for (int k = 0; k < 300; k++) {
            same("7: reading", x.read(0, k, 0, 0, k % 13), k);
        }
        same("7: the next", x.read(0, 300, 0, 0, 0), -1);
        refused("7: full", x, 0, 1, 0);
        same("7: wrong comes before full", x.read(0, 299, 0, 0, 0), -1);
        refused("7: wrong and full", x, 1, 1, 0);
        same("7: readings", x.count(2), 300);
    }

    private static void feed() {
        WindWords x = new WindWords();
        for (int k = 1; k <= 45; k++) {
            same("8: fed", x.feed(0, 0, 0, 0, 0), 20 * k);
        }
        same("8: more than there may be", x.feed(0, 0, 0, 0, 0), -1);
        same("8: as many as there were", x.count(12), 900);
        refused("8: not refused", x, 0, 0, 0);
        same("8: taken in", x.scale(900, 0), -1);
        same("8: at its first byte", x.fault(), 0);
        same("8: empty then", x.count(12), 0);
        // "sea " "7 fr" "om 9" "; se" "a 8 "
        x.feed(0x73656120, 0x37206672, 0x6f6d2039, 0x3b207365, 0x61203820);
        x.feed(0x66726f6d, 0x2031303b, 0x20202020, 0xff010203, 0x80ffffff);
        same("8: highest byte first", x.scale(28, 0), 0);
        same("8: below", x.reads(0, 1, 8, 0), 0);
        same("8: first", x.reads(0, 1, 9, 0), 7);
        same("8: second", x.reads(0, 1, 10, 0), 8);
    }

    private static void image() {
        WindWords x = new WindWords();
        for (int k = 0; k < 4; k++) {
            same("31: image", x.image(), k);
        }
        same("31: the fifth", x.image(), -1);
        refused("31", x, 0, 1, 0);
        same("31: images", x.count(11), 4);
    }

    private static void back() {
        WindWords x = Check.crew(2);
        x.trust(1, false);
        x.set(3, 4);
        x.read(0, 5, 0, 0, 3);
        same("31: taken", x.image(), 0);
        x.trust(1, true);
        x.trust(0, false);
        x.set(0, 0);
        x.officer();
        x.trust(2, false);
        x.ship(3, 2);
        x.signs(0, 1, 3);
        x.read(0, 6, 0, 0, 3);
        x.read(2, 5, 0, 0, 3);
        Check.feed(x, "sea");
        same("32: gone", x.back(0), 2);
        same("32: readings", x.count(2), 1);
        same("32: sight", x.count(4), 3);
        same("32: error", x.count(5), 4);
        same("32: trusted: the first and the new one", x.count(7), 2);
        same("32: officers stay", x.count(0), 3);
        same("32: ships stay", x.count(1), 3);
        same("32: signs stay", x.count(6), 1);
        same("32: of the reading, too", x.reading(0, 7), 1);
        same("32: the tape stays", x.count(12), 20);
        same("32: the image stays", x.back(0), 0);
        same("32: none such", x.back(1), -1);
        same("32: below", x.back(-1), -1);
        refused("32", x, 2, 0, 0);
        x.set(1, 0);
        x.read(1, 5, 0, 0, 9);
        same("32: the second isn't trusted", x.lean(1, 1), 1000);
        same("32: nothing tells against it", x.tight(), 1);
    }

    private static void backFreesTheWatches() {
        WindWords x = Check.crew(2);
        x.image();
        x.read(0, 5, 0, 0, 3);
        x.read(1, 5, 0, 3, 90);
        same("32: one couple", x.eight(0, 0, 0, 0), 1);
        same("32: both gone", x.back(0), 2);
        same("32: no couple", x.eight(0, 0, 0, 0), 0);
        same("32: its number is free", x.read(1, 5, 0, 0, 4), 0);
        same("32: its watch is free", x.read(0, 5, 0, 3, 4), 1);
        same("32: the new one", x.reading(0, 0), 1);
    }

    private static void backNeedsAsManyReadings() {
        WindWords x = Check.crew(1);
        x.image();
        x.read(0, 0, 0, 0, 0);
        x.image();
        same("32: to none", x.back(0), 1);
        same("32: fewer than then", x.back(1), -1);
        refused("32: fewer", x, 1, 0, 0);
        x.read(0, 7, 0, 0, 0);
        same("32: as many again", x.back(1), 0);
        same("32: those told since", x.reading(0, 1), 7);
        same("32: later images stay", x.count(11), 2);
    }

    private static void count() {
        WindWords x = Check.crew(2);
        x.signs(0, 1, 5);
        x.read(0, 0, 0, 0, 0);
        Check.scale(x, "sea 1 from 1;", 0);
        Check.habits(x, 0, "lean up 1; write 1 for 2;");
        Check.habits(x, 1, "lean up 1;");
        Check.habits(x, 0, "lean up 1; lean up 1; lean up 1;");
        x.trust(0, false);
        x.set(2, 3);
        x.image();
        Check.feed(x, "x");
        x.scale(21, 0);
        Check.habits(x, 0, "");
        Check.habits(x, 0, "lean up 1; write 1 for 2; x");
        Check.feed(x, "x");
        Check.feed(x, "x");
        int[] due = {2, 2, 1, 1, 2, 3, 1, 1, 1, 0, 1, 1, 40, 1};
        for (int k = 0; k < due.length; k++) {
            same("33: count(" + k + ")", x.count(k), due[k]);
        }
        same("33: below", x.count(-1), -1);
        same("33: above", x.count(14), -1);
    }
}
