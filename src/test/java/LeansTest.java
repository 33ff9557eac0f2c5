/** Promises 18 to 22: whether all told agrees, how each officer leans, numbers liked, the wind of years. */
public final class LeansTest {
    private static final Check CHECK = new Check("LeansTest");

    public static void main(String[] args) {
        twoOfficers();
        againstAGlass();
        outOfSight();
        cupByItsReader();
        notTight();
        contradictionOfThree();
        untrustedCup();
        sameOfficer();
        seaAgainstCanvas();
        laterSigning();
        liked();
        likedBounds();
        odds();
        wind();
        windCuts();
        windWithoutColumn();
        grew();
        grewOfTen();
        grewByCutValues();
        CHECK.end();
    }

    private static void same(String what, long got, long want) {
        CHECK.same(what, got, want);
    }

    private static void span(String what, WindWords x, int officer, int least, int greatest) {
        same(what + ": least of " + officer, x.lean(officer, 0), least);
        same(what + ": greatest of " + officer, x.lean(officer, 1), greatest);
    }

    private static void twoOfficers() {
        WindWords x = Check.crew(2);
        span("19: nothing told", x, 0, -1000, 1000);
        x.read(0, 0, 0, 0, 5);
        x.read(1, 0, 100, 0, 7);
        same("18: two agree", x.tight(), 1);
        span("19: only against each other", x, 0, -1000, 1000);
        same("19: what below", x.lean(0, -1), -2000);
        same("19: what above", x.lean(0, 2), -2000);
        same("19: none such", x.lean(2, 0), -2000);
        same("19: below", x.lean(-1, 0), -2000);
    }

    private static void againstAGlass() {
        WindWords x = Check.crew(3);
        x.read(0, 10, 100, 0, 5);
        x.read(1, 10, 200, 0, 7);
        x.read(2, 10, 0, 3, 48);
        span("19: by the cup", x, 0, -2, 0);
        span("19: by the other one", x, 1, -1, 3);
        span("19: the cup's", x, 2, -1000, 1000);
        x.set(1, 0);
        span("19: without error", x, 0, -1, -1);
        span("19: without error", x, 1, 1, 1);
        x.set(1, 5);
        span("19: with much error", x, 0, -6, 4);
        span("19: with much error", x, 1, -9, 11);
        x.set(2, 1);
        span("19: both in sight of the cup", x, 0, -2, 0);
        span("19: both in sight of the cup", x, 1, 0, 2);
        x.set(0, 1);
        span("19: none in sight", x, 0, -1000, 1000);
        x.set(1, 1);
        x.trust(1, false);
        span("19: not trusted", x, 1, -1000, 1000);
        span("19: the other one", x, 0, -2, 0);
    }

    private static void outOfSight() {
        WindWords x = Check.crew(2);
        x.set(1, 0);
        x.read(0, 1, 700, 0, 5);
        x.read(1, 1, 800, 3, 0);
        span("19: the row's end isn't beside the next one's begin", x, 0, -1000, 1000);
        x.read(0, 2, 700, 0, 5);
        x.read(1, 2, 1400, 3, 16);
        span("19: slantwise", x, 0, 3, 3);
        x.read(0, 3, 0, 0, 0);
        x.read(1, 4, 0, 3, 99);
        span("19: on another watch", x, 0, 3, 3);
        x.read(0, 5, 0, 0, 9);
        x.read(1, 5, 1600, 3, 99);
        span("19: too far to the south", x, 0, 3, 3);
    }

    private static void cupByItsReader() {
        WindWords x = new WindWords();
        x.officer();
        x.ship(1, 0);
        x.ship(2, 0);
        Check.scale(x, "leaf 9 from 0 if rig=1 and depth=4 and year=1; leaf 3 from 0;", 1);
        x.set(1, 0);
        x.read(0, 100, Check.spot(0, 4, 0), 2, 10);
        x.read(1, 100, Check.spot(0, 7, 0), 3, 50);
        span("19: by the man's own rig and depth", x, 0, 1, 1);
    }

    private static void notTight() {
        WindWords x = Check.crew(3);
        x.set(1, 0);
        x.read(0, 0, 0, 0, 5);
        x.read(2, 0, 0, 3, 40);
        span("19: leans not", x, 0, 0, 0);
        same("21: kept", x.wind(0, 0), 1);
        x.read(0, 1, 0, 0, 6);
        x.read(2, 1, 0, 3, 40);
        same("18: no lean for both", x.tight(), 0);
        same("19: not told", x.lean(0, 0), -2000);
        same("19: of another one neither", x.lean(1, 1), -2000);
        for (int what = 0; what < 4; what++) {
            same("21: not told", x.wind(0, what), -1);
            same("22: not told", x.grew(what), -1);
        }
        x.set(1, 1);
        same("18: with error", x.tight(), 1);
        span("19: what both leave", x, 0, 0, 1);
        x.set(1, 0);
        x.trust(0, false);
        same("18: nobody trusted tells it", x.tight(), 1);
    }

    private static void contradictionOfThree() {
        WindWords x = Check.crew(3);
        x.set(0, 0);
        x.read(0, 0, 0, 0, 5);
        x.read(1, 0, 0, 0, 6);
        x.read(1, 1, 0, 0, 5);
        x.read(2, 1, 0, 0, 6);
        same("18: a chain", x.tight(), 1);
        x.read(2, 2, 0, 0, 6);
        x.read(0, 2, 0, 0, 5);
        same("18: in a ring", x.tight(), 0);
        x.set(0, 1);
        same("18: with error", x.tight(), 1);
    }

    private static void untrustedCup() {
        WindWords x = Check.crew(2);
        x.trust(1, false);
        x.read(0, 0, 0, 0, 5);
        x.read(1, 0, 0, 3, 40);
        span("19: a cup needs no trust", x, 0, -1, 1);
    }

    private static void sameOfficer() {
        WindWords x = new WindWords();
        x.officer();
        x.ship(0, 0);
        x.ship(0, 0);
        x.set(0, 0);
        x.read(0, 0, 0, 0, 5);
        x.read(1, 0, 0, 0, 9);
        same("18: of one officer nothing is told", x.tight(), 1);
        x.officer();
        x.signs(1, 1, 5);
        x.read(0, 5, 0, 0, 5);
        x.read(1, 5, 0, 0, 9);
        x.read(0, 6, 0, 0, 5);
        x.read(1, 6, 0, 0, 9);
        same("18: of two alike", x.tight(), 1);
    }

    private static void seaAgainstCanvas() {
        WindWords x = Check.crew(3);
        x.set(0, 0);
        x.read(0, 0, 0, 1, 5);
        x.read(1, 0, 0, 2, 8);
        x.read(2, 0, 0, 3, 40);
        span("19: sea", x, 0, 0, 0);
        span("19: leaf", x, 1, 3, 3);
    }

    private static void laterSigning() {
        WindWords x = Check.crew(2);
        x.set(0, 0);
        x.read(0, 50, 0, 0, 5);
        x.read(1, 50, 0, 3, 40);
        span("19: by who signs", x, 0, 0, 0);
        x.signs(0, 1, 50);
        same("12: whose it is then", x.reading(0, 7), 1);
        span("19: not the one before", x, 0, -1000, 1000);
        span("19: but the one who signs on that watch", x, 1, 0, 0);
    }

    private static WindWords numbers(int... numbers) {
        WindWords x = Check.crew(2);
        for (int k = 0; k < numbers.length; k++) {
            x.read(0, k, 0, k % 3, numbers[k]);
        }
        x.read(0, 500, 0, 3, 4);
        x.read(1, 500, 0, 0, 4);
        return x;
    }

    private static void liking(WindWords x, int number, int times, int twice, int liked) {
        same("20: how many " + number, x.liked(0, number, 0), times);
        same("20: beside " + number, x.liked(0, number, 1), twice);
        same("20: whether " + number, x.liked(0, number, 2), liked);
    }

    private static void liked() {
        WindWords x = numbers(3, 3, 3, 3, 4, 5, 5, 5, 5, 5);
        liking(x, 4, 1, 9, -1);
        liking(x, 3, 4, 1, 1);
        liking(x, 5, 5, 1, 1);
        liking(x, 2, 0, 4, -1);
        liking(x, 9, 0, 0, 0);
        same("20: no odds where some are", x.liked(0, 4, 3), -1);
        liking(numbers(3, 3, 4, 5, 5), 4, 1, 4, 0);
        liking(numbers(3, 3, 4, 5, 5, 5), 4, 1, 5, -1);
        liking(numbers(3, 4, 4, 5), 4, 2, 2, 0);
        liking(numbers(3, 4, 4, 4, 5), 4, 3, 2, 1);
        liking(numbers(0, 0, 1, 2), 1, 1, 3, 0);
        liking(numbers(12, 12, 10, 11, 11, 11, 11), 11, 4, 3, 1);
        x.trust(0, false);
        liking(x, 3, 4, 1, 1);
    }

    private static void likedBounds() {
        WindWords x = numbers(3);
        same("20: number below", x.liked(0, 0, 0), -200);
        same("20: number above", x.liked(0, 12, 0), -200);
        same("20: what below", x.liked(0, 1, -1), -200);
        same("20: what above", x.liked(0, 1, 4), -200);
        same("20: none such", x.liked(2, 1, 0), -200);
        same("20: below", x.liked(-1, 1, 0), -200);
        same("20: one", x.liked(0, 1, 0), 0);
        same("20: eleven", x.liked(0, 11, 0), 0);
    }

    private static void odds() {
        same("20: certain", numbers(9).liked(0, 4, 3), 1000000000);
        same("20: half", numbers(3).liked(0, 4, 3), 500000000);
        // three of four beside: 8 less 3 by 8, four times, cut each time
        same("20: four times", numbers(3, 3, 5, 9).liked(0, 4, 3), 152587890);
        same("20: all beside", numbers(3, 5, 3).liked(0, 4, 3), 125000000);
        same("20: cut", numbers(3, 9, 9).liked(0, 4, 3), 578703703);
        WindWords x = Check.crew(1);
        same("20: no readings", x.liked(0, 4, 3), -1);
        x.read(0, 0, 0, 3, 3);
        same("20: a cup is none", x.liked(0, 4, 3), -1);
    }

    private static void wind() {
        WindWords x = Check.crew(3);
        x.read(0, 10, 100, 0, 5);
        x.read(1, 10, 200, 0, 7);
        x.read(2, 10, 0, 3, 48);
        // 5 to 7 reads from 40 to 63, 4 to 8 from 32 to 71
        same("21: kept", x.wind(0, 0), 2);
        same("21: least", x.wind(0, 1), 36);
        same("21: greatest", x.wind(0, 2), 67);
        same("21: what below", x.wind(0, -1), -1);
        same("21: what above", x.wind(0, 3), -1);
        same("21: year below", x.wind(-1, 0), -1);
        same("21: year above", x.wind(10, 0), -1);
        same("21: another year", x.wind(1, 0), 0);
        same("21: its least", x.wind(1, 1), -1);
        same("21: its greatest", x.wind(1, 2), -1);
        x.read(0, 100, 0, 0, 12);
        same("21: of the next year", x.wind(1, 0), 1);
        same("21: held to 12", x.wind(1, 1), 96);
        same("21: held to 12", x.wind(1, 2), 99);
        x.read(0, 999, 0, 0, 0);
        same("21: held to 0 and 2", x.wind(9, 1), 0);
        same("21: held to 0 and 2", x.wind(9, 2), 23);
        x.trust(1, false);
        same("21: of trusted ones", x.wind(0, 0), 1);
        same("21: of them the least", x.wind(0, 1), 40);
    }

    private static void windCuts() {
        WindWords x = Check.crew(2);
        x.set(1, 0);
        Check.scale(x, "canvas 1 from 3; canvas 2 from 4; canvas 3 from 6;", 0);
        x.read(0, 0, 0, 0, 2);
        x.read(1, 0, 0, 3, 4);
        x.read(0, 1, 0, 0, 1);
        // 4 to 5 and 3 to 3
        same("21: both", x.wind(0, 0), 2);
        same("21: cut", x.wind(0, 1), 3);
        same("21: even", x.wind(0, 2), 4);
        x.read(0, 2, 0, 0, 3);
        same("21: three", x.wind(0, 1), 4);
        same("21: three", x.wind(0, 2), 35);
    }

    private static void windWithoutColumn() {
        WindWords x = Check.crew(2);
        x.set(1, 0);
        Check.scale(x, "canvas 5 from 40; sea 7 from 20 if depth=2;", 0);
        x.read(0, 0, 0, 0, 5);
        x.read(1, 0, 0, 3, 60);
        x.read(0, 1, 0, 0, 6);
        x.read(0, 2, 0, 1, 7);
        x.read(0, 3, Check.spot(0, 2, 0), 1, 7);
        same("21: those with a column", x.wind(0, 0), 2);
        same("21: from 40 and 20", x.wind(0, 1), 30);
        same("21: to the end", x.wind(0, 2), 99);
        x.set(1, 1);
        // 6 less 1 reads now, too; sea 6 to 8 without depth reads not, with it from 20
        same("21: more with error", x.wind(0, 0), 3);
    }

    /** One officer that leans not, and a NUMBER for each year (below 0: none). */
    private static WindWords years(int... numbers) {
        WindWords x = Check.crew(2);
        x.set(0, 0);
        for (int year = 0; year < numbers.length; year++) {
            if (numbers[year] >= 0) {
                x.read(0, 100 * year + 1, 0, 0, numbers[year]);
                x.read(1, 100 * year + 1, 0, 3, 8 * numbers[year]);
            }
        }
        return x;
    }

    private static void grown(String what, WindWords x, int... due) {
        for (int k = 0; k < 4; k++) {
            same("22: " + what + ": grew(" + k + ")", x.grew(k), due[k]);
        }
        same("22: what below", x.grew(-1), -1);
        same("22: what above", x.grew(4), -1);
    }

    private static void grew() {
        grown("no years", years(), 0, 1, 1, 0);
        grown("one", years(-1, 3), 0, 1, 1, 1);
        grown("rising", years(1, 2), 1, 1, 2, 2);
        grown("falling", years(2, -1, 1), 0, 2, 2, 2);
        grown("alike", years(2, 2), 0, 2, 2, 2);
        grown("three", years(1, 3, 2), 2, 3, 6, 3);
        grown("three of which two are alike", years(1, 3, 3), 2, 3, 6, 3);
        grown("four", years(0, 5, 4, 9), 5, 4, 24, 4);
        WindWords x = years(3, 3);
        x.read(0, 110, 0, 0, 3);
        x.read(0, 111, 0, 0, 4);
        grown("a mean that is greater", x, 1, 1, 2, 2);
    }

    private static void grewOfTen() {
        grown("ten rising", years(0, 1, 2, 3, 4, 5, 6, 7, 8, 9), 45, 1, 3628800, 10);
        grown("ten with one back", years(1, 0, 2, 3, 4, 5, 6, 7, 8, 9), 44, 10, 3628800, 10);
        grown("ten with two back", years(1, 0, 3, 2, 4, 5, 6, 7, 8, 9), 43, 54, 3628800, 10);
        grown("ten falling", years(9, 8, 7, 6, 5, 4, 3, 2, 1, 0), 0, 3628800, 3628800, 10);
    }

    /** A hundred with one of NUMBER 1, then ninety-nine: the greater mean is cut to the same VALUE. */
    private static void grewByCutValues() {
        WindWords x = Check.crew(2);
        x.set(0, 0);
        x.read(1, 0, 0, 3, 0);
        for (int watch = 0; watch < 199; watch++) {
            x.read(0, watch, 0, 0, watch == 50 || watch == 150 ? 1 : 0);
        }
        same("21: the first", x.wind(0, 0), 100);
        same("21: the second", x.wind(1, 0), 99);
        grown("cut", x, 0, 2, 2, 2);
        x.read(0, 199, 0, 0, 1);
        grown("greater", x, 1, 1, 2, 2);
    }
}
