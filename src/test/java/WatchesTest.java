/** Promises 12 and 23 to 28: late seas, watches copied, readings that paid, contracts, the scale most alike. */
public final class WatchesTest {
    private static final Check CHECK = new Check("WatchesTest");

    public static void main(String[] args) {
        late();
        lateOfUntrusted();
        lateMeans();
        lateByScale();
        copied();
        copiedNeeds();
        find();
        wished();
        wishedPartner();
        wishedFirstTwelve();
        wishedNone();
        eight();
        eightNoneSuch();
        alike();
        alikeLeavesOut();
        alikeFirst();
        CHECK.end();
    }

    private static void same(String what, long got, long want) {
        CHECK.same(what, got, want);
    }

    private static void late() {
        WindWords x = Check.crew(3);
        for (int what = 0; what < 3; what++) {
            same("23: no couples", x.late(what), -1);
        }
        same("23: no sum", x.late(13), 0);
        same("23: no couples of a lag", x.late(23), 0);
        x.read(0, 20, 500, 1, 6);
        x.read(1, 17, 500, 3, 40);
        x.read(1, 20, 500, 3, 80);
        x.read(2, 18, 600, 3, 48);
        x.read(2, 11, 500, 3, 0);
        x.read(2, 10, 500, 3, 48);
        x.read(2, 21, 500, 3, 48);
        int[] sums = {4, 0, 0, 1, 0, 0, 0, 0, 0, 6};
        int[] couples = {1, 0, 0, 1, 0, 0, 0, 0, 0, 1};
        for (int lag = 0; lag < 10; lag++) {
            same("23: sum of lag " + lag, x.late(10 + lag), sums[lag]);
            same("23: couples of lag " + lag, x.late(20 + lag), couples[lag]);
        }
        same("23: the lag", x.late(0), 3);
        same("23: its sum", x.late(1), 1);
        same("23: its couples", x.late(2), 1);
        for (int what : new int[] {-1, 3, 9, 30, Integer.MIN_VALUE, Integer.MAX_VALUE}) {
            same("23: none such " + what, x.late(what), -1);
        }
        x.read(0, 19, 500, 3, 48);
        same("23: a cup of the same ship", x.late(0), 1);
        same("23: nothing differs", x.late(1), 0);
    }

    private static void lateOfUntrusted() {
        WindWords x = Check.crew(2);
        x.read(0, 20, 500, 1, 6);
        x.read(1, 20, 500, 3, 40);
        x.read(0, 30, 500, 0, 6);
        x.read(1, 30, 500, 3, 40);
        x.read(0, 40, 500, 2, 6);
        x.read(1, 40, 500, 3, 40);
        same("23: sea alone", x.late(20), 1);
        x.trust(1, false);
        same("23: a cup needs no trust", x.late(20), 1);
        x.trust(0, false);
        same("23: the sea's officer does", x.late(20), 0);
    }

    private static void lateMeans() {
        WindWords x = Check.crew(3);
        x.read(0, 9, 0, 1, 5);
        x.read(1, 9, 0, 3, 48);
        x.read(2, 9, 0, 3, 56);
        x.read(1, 8, 0, 3, 56);
        x.read(1, 2, 0, 3, 48);
        same("23: sum of two", x.late(10), 3);
        same("23: two couples", x.late(20), 2);
        // three by two is less than two by one, one by one is the least
        same("23: least mean", x.late(0), 7);
        x.read(2, 5, 0, 3, 32);
        same("23: of several the least lag", x.late(0), 4);
        x.read(1, 100, 0, 1, 2);
        x.read(2, 100, 0, 3, 16);
        same("23: means, not sums", x.late(0), 0);
        same("23: its sum", x.late(1), 3);
        same("23: its couples", x.late(2), 3);
    }

    private static void lateByScale() {
        WindWords x = new WindWords();
        x.officer();
        x.ship(1, 0);
        x.ship(2, 0);
        Check.scale(x, "sea 9 from 0 if rig=1 and depth=4 and year=1; sea 2 from 0 if rig=2; sea 3 from 0 if year=0;", 0);
        x.read(0, 101, Check.spot(7, 4, 0), 1, 5);
        x.read(1, 98, Check.spot(7, 5, 0), 3, 50);
        same("23: by the sea's rig, depth and year", x.late(13), 4);
    }

    /** A row of numbers of ship 0 from watch 1 on beside one of ship 1. */
    private static WindWords rows(int[] its, int[] others) {
        WindWords x = Check.crew(3);
        for (int k = 0; k < its.length; k++) {
            x.read(0, k + 1, 0, 0, its[k]);
            x.read(1, k + 1, 100, 1, others[k]);
        }
        return x;
    }

    private static void copiedOf(String what, WindWords x, int ship, int... due) {
        for (int k = 0; k < 3; k++) {
            same("24: " + what + ": " + k, x.copied(ship, k), due[k]);
        }
    }

    private static void copied() {
        WindWords x = rows(new int[] {4, 4, 4, 5, 5, 5}, new int[] {4, 6, 7, 9, 9, 0});
        copiedOf("of ship 0", x, 0, 5, 4, 2);
        copiedOf("of ship 1", x, 1, 5, 1, 0);
        copiedOf("of ship 2", x, 2, 0, 0, 0);
        int[] due = {0, 0, 1, 0, 0, 0, 0, 0, 0, 0, 1, 0};
        for (int k = 0; k < due.length; k++) {
            same("12: whether copied " + k, x.reading(k, 8), due[k]);
        }
        same("24: what below", x.copied(0, -1), -1);
        same("24: what above", x.copied(0, 3), -1);
        same("24: ship below", x.copied(-1, 0), -1);
        same("24: ship above", x.copied(3, 0), -1);
        x.trust(0, false);
        x.trust(1, false);
        copiedOf("without trust", x, 0, 5, 4, 2);
        x.set(0, 1);
        copiedOf("out of sight", x, 0, 5, 4, 0);
    }

    private static void copiedNeeds() {
        WindWords x = rows(new int[] {4, 4}, new int[] {4, 6});
        copiedOf("by one officer", x, 0, 1, 1, 1);
        x.signs(0, 1, 2);
        copiedOf("by two officers", x, 0, 0, 0, 0);
        x = Check.crew(3);
        x.read(0, 1, 0, 0, 4);
        x.read(0, 2, 6300, 1, 4);
        x.read(1, 1, 0, 0, 4);
        x.read(1, 2, 6200, 0, 1);
        copiedOf("of another kind and cell", x, 0, 1, 1, 1);
        x = Check.crew(3);
        x.read(0, 1, 0, 0, 4);
        x.read(0, 2, 0, 0, 4);
        x.read(1, 1, 0, 0, 4);
        x.read(2, 2, 0, 0, 9);
        copiedOf("one other ship on each of them", x, 0, 1, 1, 0);
        x.read(1, 2, 200, 0, 9);
        copiedOf("another one too far", x, 0, 1, 1, 0);
        x = Check.crew(2);
        x.read(0, 1, 0, 0, 4);
        x.read(0, 2, 0, 0, 4);
        x.read(1, 1, 0, 3, 4);
        x.read(1, 2, 0, 3, 90);
        copiedOf("a cup beside", x, 0, 1, 1, 0);
        copiedOf("a cup itself", x, 1, 0, 0, 0);
        x = Check.crew(2);
        x.read(0, 1, 0, 0, 4);
        x.read(0, 3, 0, 0, 4);
        x.read(1, 2, 0, 3, 4);
        x.read(1, 3, 0, 0, 4);
        copiedOf("a watch between", x, 0, 0, 0, 0);
        copiedOf("behind a cup", x, 1, 0, 0, 0);
        x = Check.crew(2);
        x.read(0, 2, 0, 0, 4);
        x.read(0, 1, 0, 0, 4);
        x.read(1, 1, 0, 0, 5);
        x.read(1, 2, 0, 0, 3);
        copiedOf("told the other way round", x, 0, 1, 1, 1);
        same("24: the later watch", x.reading(0, 8), 1);
        same("24: not the earlier one", x.reading(1, 8), 0);
        x = Check.crew(2);
        x.read(0, 99, 0, 0, 4);
        x.read(0, 100, 0, 0, 4);
        x.read(1, 99, 0, 0, 5);
        x.read(1, 100, 0, 0, 4);
        copiedOf("differs by one", x, 0, 1, 1, 0);
    }

    private static void find() {
        WindWords x = rows(new int[] {4, 4, 4, 5, 5, 5}, new int[] {4, 6, 7, 9, 9, 0});
        same("25: first", x.find(0), 2);
        same("25: second", x.find(1), 10);
        same("25: no third", x.find(2), -1);
        same("25: below", x.find(-1), -1);
        same("25: far above", x.find(Integer.MAX_VALUE), -1);
    }

    private static void wishedOf(String what, WindWords x, int officer, int... due) {
        for (int k = 0; k < due.length; k++) {
            same("26: " + what + ": " + k, x.wished(officer, k), due[k]);
        }
    }

    /** Readings of ship 0, with spars or without, that are so much above those of ship 1. */
    private static WindWords wishes(int[] above, String spars) {
        WindWords x = Check.crew(2);
        for (int k = 0; k < above.length; k++) {
            x.read(0, k, Check.spot(0, 0, spars.charAt(k) - '0'), 0, 6 + above[k]);
            x.read(1, k, Check.spot(1, 0, 9), 1, 6);
        }
        return x;
    }

    private static void wished() {
        wishedOf("none", wishes(new int[] {}, ""), 0, 1, 1, 0, 0);
        wishedOf("one", wishes(new int[] {3}, "1"), 0, 1, 1, 0, 1);
        // 3 against 1: lead 3 - 1; of both ways one is so much
        wishedOf("two", wishes(new int[] {3, 1}, "10"), 0, 1, 2, 2, 2);
        wishedOf("two the other way", wishes(new int[] {3, 1}, "09"), 0, 2, 2, -2, 2);
        // 5 and 2 lost against 3, 0: 7 by 2 less 3 by 2; pairs with a sum of 7 at least: 5 2, 5 3
        wishedOf("four", wishes(new int[] {5, 3, 2, 0}, "2010"), 0, 2, 6, 8, 4);
        // -1 lost of -1, -1, 4: -1 by 2 less 3 by 1: all three ways
        wishedOf("below", wishes(new int[] {-1, -1, 4}, "100"), 0, 3, 3, -5, 3);
        wishedOf("all lost", wishes(new int[] {1, 2, 3}, "123"), 0, 1, 1, 0, 3);
        WindWords x = wishes(new int[] {3, 1}, "10");
        wishedOf("the other officer's, all with spars", x, 1, 1, 1, 0, 2);
        x.trust(0, false);
        wishedOf("without trust", x, 0, 1, 2, 2, 2);
    }

    private static void wishedPartner() {
        WindWords x = Check.crew(3);
        x.read(2, 5, 0, 2, 2);
        x.read(1, 5, 0, 2, 9);
        x.read(0, 5, Check.spot(0, 0, 1), 0, 6);
        x.read(0, 6, 0, 0, 6);
        x.read(1, 6, 0, 3, 50);
        x.read(2, 6, 200, 0, 1);
        x.read(0, 7, 0, 0, 6);
        x.read(2, 7, 100, 0, 6);
        // 4 above the one told first, 0 above another; nothing beside that of watch 6 but a cup
        wishedOf("the least number", x, 0, 1, 2, 4, 2);
        x.set(2, 1);
        wishedOf("more in sight", x, 0, 2, 3, 4 * 2 - 5, 3);
    }

    private static void wishedFirstTwelve() {
        int[] above = {1, 1, 1, 1, 1, 1, 0, 0, 0, 0, 0, 0, 6, 6};
        WindWords x = wishes(above, "11111100000000");
        wishedOf("twelve", x, 0, 1, 924, 36, 12);
        x = wishes(above, "00000011111111");
        wishedOf("twelve the other way", x, 0, 924, 924, -36, 12);
    }

    private static void wishedNone() {
        WindWords x = wishes(new int[] {3, 1}, "10");
        same("26: none such", x.wished(2, 0), -1000000);
        same("26: below", x.wished(-1, 0), -1000000);
        same("26: what below", x.wished(0, -1), -1000000);
        same("26: what above", x.wished(0, 4), -1000000);
        WindWords y = new WindWords();
        y.officer();
        y.ship(0, 0);
        y.ship(0, 0);
        y.read(0, 0, 0, 0, 5);
        y.read(1, 0, Check.spot(0, 0, 1), 0, 9);
        wishedOf("another ship of the same officer", y, 0, 1, 2, 8, 2);
    }

    private static void eight() {
        WindWords x = Check.crew(4);
        x.read(0, 0, 0, 0, 8);
        x.read(1, 0, 100, 1, 7);
        x.read(2, 0, 800, 3, 60);
        x.read(3, 0, 900, 3, 61);
        x.read(0, 1, 0, 2, 12);
        x.read(1, 1, 200, 3, 99);
        x.read(2, 2, 0, 3, 1);
        x.read(0, 2, 0, 0, 8);
        int[][] due = {
            // line, wind, coin, couples, words, wind, coins
            {8, 61, 10, 5, 3, 2, 10}, {7, 61, 10, 5, 5, 2, 30}, {9, 0, 9999, 5, 0, 5, -49995}, {0, 99, 0, 5, 5, 0, 0},
            {12, 60, 1, 5, 0, 4, -4},
        };
        for (int[] d : due) {
            for (int what = 0; what < 4; what++) {
                same("27: eight(" + d[0] + ", " + d[1] + ", " + d[2] + ", " + what + ")", x.eight(d[0], d[1], d[2], what), d[3 + what]);
            }
        }
        x.trust(0, false);
        same("27: without trust", x.eight(0, 0, 0, 0), 5);
        x.set(2, 1);
        same("27: more in sight", x.eight(0, 0, 0, 0), 6);
    }

    private static void eightNoneSuch() {
        WindWords x = Check.crew(1);
        int[][] wrong = {
            {-1, 0, 0, 0}, {13, 0, 0, 0}, {0, -1, 0, 0}, {0, 100, 0, 0}, {0, 0, -1, 0}, {0, 0, 10000, 0}, {0, 0, 0, -1}, {0, 0, 0, 4},
        };
        for (int[] w : wrong) {
            same("27: none such", x.eight(w[0], w[1], w[2], w[3]), -1000000000);
        }
        same("27: the last ones", x.eight(12, 99, 9999, 3), 0);
    }

    private static void alike() {
        WindWords x = Check.crew(3);
        x.read(0, 0, 0, 0, 2);
        x.read(1, 0, 100, 1, 6);
        x.read(2, 0, 200, 2, 7);
        x.read(0, 1, 0, 3, 2);
        same("28: no scales", x.alike(-1), -1);
        same("28: not even one", x.alike(0), -1);
        // into the first: canvas 2 is 4, sea 6 is 5, leaf 7 is 0
        Check.scale(x, "canvas 4 from 0; sea 5 from 40; leaf 9 from 64;", 9);
        same("28: one and five", x.alike(0), 6);
        same("28: it alone", x.alike(-1), 0);
        Check.scale(x, "canvas 4 from 0; sea 5 from 40; leaf 9 from 62;", 9);
        same("28: the less that half gives", x.alike(1), 6);
        Check.scale(x, "canvas 4 from 0; sea 5 from 40; leaf 8 from 60;", 9);
        same("28: the least of as many", x.alike(2), 6);
        Check.scale(x, "canvas 4 from 0; sea 5 from 40; leaf 7 from 59;", 9);
        same("28: one and two", x.alike(3), 3);
        same("28: the one with the least", x.alike(-1), 3);
        x.set(2, 1);
        same("28: all three in sight", x.alike(3), 6);
        same("28: none such", x.alike(4), -1);
        same("28: below", x.alike(-2), -1);
        x.trust(0, false);
        same("28: without trust", x.alike(3), 6);
    }

    private static void alikeLeavesOut() {
        WindWords x = Check.crew(3);
        Check.scale(x, "canvas 3 from 20; canvas 9 from 50 if year=1;", 0);
        Check.scale(x, "canvas 1 from 20 if year=0; canvas 4 from 20 if year=1; canvas 6 from 50; sea 2 from 0;", 5);
        x.read(0, 0, 0, 0, 3);
        x.read(1, 0, 0, 1, 0);
        x.read(2, 0, 0, 0, 5);
        // 3 reads from 20 to 99 and gives 6 by fifty winds; the sea's gives 2; no wind reads 5
        same("28: left out", x.alike(1), 4);
        x.read(0, 100, 0, 0, 3);
        x.read(1, 100, 0, 1, 0);
        // in year 1 it reads from 20 to 49, which gives 4 if that year is asked
        same("28: the reading's year is asked", x.alike(1), 6);
        same("28: into its own scale", x.alike(0), 6);
        same("28: the first of both", x.alike(-1), 0);
    }

    private static void alikeFirst() {
        WindWords x = Check.crew(2);
        x.read(0, 0, 0, 0, 3);
        x.read(1, 0, 0, 0, 6);
        Check.scale(x, "canvas 8 from 40;", 9);
        Check.scale(x, "canvas 3 from 40;", 9);
        Check.scale(x, "canvas 3 from 40;", 9);
        same("28: sum", x.alike(0), 8);
        same("28: sum", x.alike(1), 3);
        same("28: of several the first", x.alike(-1), 1);
    }
}
