/** The ends of what each argument may be: both are taken, what lies beyond them isn't; the plain model tells what is due. */
public final class RangesTest {
    private interface Call {
        long of(int[] a);
    }

    private static final Check CHECK = new Check("RangesTest");

    private WindWords x = new WindWords();
    private Model m = new Model();

    public static void main(String[] args) {
        new RangesTest().asking();
        new RangesTest().readingsAndLeans();
        new RangesTest().storms();
        telling();
        CHECK.end();
    }

    private static String shown(String name, int[] a) {
        StringBuilder text = new StringBuilder(name).append('(');
        for (int k = 0; k < a.length; k++) {
            text.append(k == 0 ? "" : ", ").append(a[k]);
        }
        return text.append(')').toString();
    }

    /** Goes with each argument to both its ends and beyond, while the others are as in the middle. */
    private static void ends(String name, Call its, Call models, long none, int[] middle, int[] low, int[] high) {
        for (int k = 0; k < middle.length; k++) {
            for (int value : new int[] {low[k], high[k], low[k] - 1, high[k] + 1, Integer.MIN_VALUE, Integer.MAX_VALUE}) {
                int[] a = middle.clone();
                a[k] = value;
                long got = its.of(a);
                boolean isTaken = low[k] <= value && value <= high[k];
                CHECK.same(shown(name, a), got, models.of(a));
                CHECK.same(shown(name, a) + " is one of the answers", got != none, isTaken);
            }
        }
    }

    private static int[] row(int... numbers) {
        return numbers;
    }

    private void officer() {
        CHECK.same("2: officer", x.officer(), m.officer());
    }

    private void ship(int rig, int officer) {
        CHECK.same("3: ship", x.ship(rig, officer), m.ship(rig, officer));
    }

    private void signs(int ship, int officer, int watch) {
        CHECK.same("4: signs", x.signs(ship, officer, watch), m.signs(ship, officer, watch));
    }

    private void read(int ship, int watch, int spot, int kind, int number) {
        CHECK.same("7: read", x.read(ship, watch, spot, kind, number), m.read(ship, watch, spot, kind, number));
    }

    private void feed(String text) {
        CHECK.feed(x, m, text);
    }

    private void scale(String text, int year) {
        feed(text);
        CHECK.same("9: scale", x.scale(text.length(), year), m.scale(text.length(), year));
    }

    private void habits(int officer, String text) {
        feed(text);
        CHECK.same("10: habits", x.habits(officer, text.length()), m.habits(officer, text.length()));
    }

    /** A scale in which each NUMBER of each KIND has a COLUMN. */
    private static String fullScale(int width) {
        StringBuilder text = new StringBuilder();
        for (String kind : new String[] {"canvas", "sea", "leaf"}) {
            for (int number = 1; number <= 12; number++) {
                text.append(kind).append(' ').append(number).append(" from ").append(width * number).append(';');
            }
        }
        return text.toString();
    }

    /** As many officers and ships as there may be, the last of them with habits and signing. */
    private void crew() {
        for (int k = 0; k < 16; k++) {
            officer();
        }
        for (int k = 0; k < 12; k++) {
            ship(k % 4, k);
        }
        signs(11, 15, 900);
        scale(fullScale(7), 9);
        habits(15, "lean up 3 if rig=3 and spars=0; write 9 for 12;");
        habits(0, "lean down 2 if year=0 and number>4;");
    }

    private void asking() {
        crew();
        ends("13: reads", a -> x.reads(a[0], a[1], a[2], a[3]), a -> m.reads(a[0], a[1], a[2], a[3]), -1,
                row(4, 1, 50, 20), row(0, 0, 0, 0), row(9, 2, 99, 39));
        ends("14: blow", a -> x.blow(a[0], a[1], a[2], a[3], a[4]), a -> m.blow(a[0], a[1], a[2], a[3], a[4]), -1,
                row(11, 950, 1, 50, 4), row(0, 0, 0, 0, 0), row(11, 999, 2, 99, 9));
        ends("14: blow of the first", a -> x.blow(a[0], a[1], a[2], a[3], a[4]), a -> m.blow(a[0], a[1], a[2], a[3], a[4]), -1,
                row(0, 99, 0, 99, 4), row(0, 0, 0, 0, 0), row(11, 999, 2, 99, 9));
        ends("15: run", a -> x.run(a[0], a[1], a[2], a[3], a[4]), a -> m.run(a[0], a[1], a[2], a[3], a[4]), -1,
                row(3, 950, 77777, 100, 7), row(0, 0, 0, 1, 0), row(11, 999, 999999999, 1000, 12));
        ends("16: column", a -> x.column(a[0], a[1], a[2], a[3], a[4]), a -> m.column(a[0], a[1], a[2], a[3], a[4]), -1,
                row(4, 1, 20, 5, 1), row(0, 0, 0, 0, 0), row(9, 2, 39, 12, 1));
        ends("17: turn", a -> x.turn(a[0], a[1], a[2], a[3], a[4]), a -> m.turn(a[0], a[1], a[2], a[3], a[4]), -1,
                row(1, 4, 5, 9, 2), row(0, 0, 0, 0, 0), row(2, 9, 12, 9, 3));
        ends("17: turn from the other", a -> x.turn(a[0], a[1], a[2], a[3], a[4]), a -> m.turn(a[0], a[1], a[2], a[3], a[4]), -1,
                row(1, 9, 12, 0, 1), row(0, 0, 0, 0, 0), row(2, 9, 12, 9, 3));
        ends("33: count", a -> x.count(a[0]), a -> m.count(a[0]), -1, row(5), row(0), row(13));
    }

    private void readingsAndLeans() {
        crew();
        scale("canvas 5 from 3; sea 4 from 3;", 8);
        for (int watch : new int[] {0, 99, 100, 899, 900, 999}) {
            read(0, watch, 0, 0, 5);
            read(1, watch, 0, 3, 45);
            read(11, watch, 99, 1, 7);
        }
        ends("12: reading", a -> x.reading(a[0], a[1]), a -> m.reading(a[0], a[1]), -1, row(5, 2), row(0, 0), row(17, 8));
        ends("19: lean", a -> x.lean(a[0], a[1]), a -> m.lean(a[0], a[1]), -2000, row(15, 0), row(0, 0), row(15, 1));
        ends("20: liked", a -> x.liked(a[0], a[1], a[2]), a -> m.liked(a[0], a[1], a[2]), -200,
                row(15, 6, 1), row(0, 1, 0), row(15, 11, 3));
        ends("21: wind", a -> x.wind(a[0], a[1]), a -> m.wind(a[0], a[1]), -1, row(9, 1), row(0, 0), row(9, 2));
        ends("22: grew", a -> x.grew(a[0]), a -> m.grew(a[0]), -1, row(2), row(0), row(3));
        ends("23: late, by lags", a -> x.late(a[0] < 0 ? a[0] : a[0] + 10), a -> m.late(a[0] < 0 ? a[0] : a[0] + 10), -1,
                row(9), row(0), row(19));
        ends("23: late", a -> x.late(a[0]), a -> m.late(a[0]), -1, row(1), row(0), row(2));
        ends("24: copied", a -> x.copied(a[0], a[1]), a -> m.copied(a[0], a[1]), -1, row(0, 0), row(0, 0), row(11, 2));
        ends("26: wished", a -> x.wished(a[0], a[1]), a -> m.wished(a[0], a[1]), -1000000, row(15, 3), row(0, 0), row(15, 3));
        ends("27: eight", a -> x.eight(a[0], a[1], a[2], a[3]), a -> m.eight(a[0], a[1], a[2], a[3]), -1000000000,
                row(6, 45, 77, 3), row(0, 0, 0, 0), row(12, 99, 9999, 3));
        ends("28: alike", a -> x.alike(a[0]), a -> m.alike(a[0]), -1, row(0), row(-1), row(1));
    }

    private void storms() {
        crew();
        read(0, 10, 900, 0, 8);
        ends("29: storm", a -> x.storm(a[0], a[1], a[2], a[3]), a -> m.storm(a[0], a[1], a[2], a[3]), -1,
                row(500, 530, 3, 6), row(471, 500, 0, 0), row(530, 559, 7, 12));
        ends("29: storm on the first watches", a -> x.storm(a[0], a[1], a[2], a[3]), a -> m.storm(a[0], a[1], a[2], a[3]), -1,
                row(0, 30, 3, 6), row(0, 0, 0, 0), row(30, 59, 7, 12));
        ends("29: storm on the last watches", a -> x.storm(a[0], a[1], a[2], a[3]), a -> m.storm(a[0], a[1], a[2], a[3]), -1,
                row(970, 999, 3, 6), row(940, 970, 0, 0), row(999, 999, 7, 12));
        x.storm(5, 12, 2, 8);
        m.storm(5, 12, 2, 8);
        ends("30: way", a -> x.way(a[0], a[1]), a -> m.way(a[0], a[1]), -1, row(10, 9), row(5, -1), row(12, 63));
    }

    /** What is told: each time to objects on which nothing else was tried. */
    private static void telling() {
        tells("3: ship", 0, row(2, 1), row(0, 0), row(3, 2));
        tells("4: signs", 1, row(0, 1, 500), row(0, 0, 41), row(2, 2, 999));
        tells("4: signs for another", 1, row(1, 1, 500), row(0, 0, 1), row(2, 2, 999));
        tells("5: trust", 2, row(1), row(0), row(2));
        tells("6: set", 3, row(3, 2), row(0, 0), row(7, 5));
        for (int kind = 0; kind < 3; kind++) {
            tells("7: read", 4, row(1, 500, 3456, kind, 7), row(0, 0, 0, 0, 0), row(2, 999, 6399, 3, 12));
        }
        tells("7: read a cup", 4, row(1, 500, 3456, 3, 7), row(0, 0, 0, 0, 0), row(2, 999, 6399, 3, 99));
        tells("9: scale", 5, row(13, 3), row(0, 0), row(20, 9));
        tells("10: habits", 6, row(2, 13), row(0, 0), row(2, 20));
        tells("32: back", 7, row(1), row(0), row(2));
    }

    private static void tells(String name, int which, int[] middle, int[] low, int[] high) {
        for (int k = 0; k < middle.length; k++) {
            for (int value : new int[] {low[k], high[k], low[k] - 1, high[k] + 1, Integer.MIN_VALUE, Integer.MAX_VALUE}) {
                int[] a = middle.clone();
                a[k] = value;
                RangesTest on = new RangesTest();
                on.begin(which);
                long got = on.told(which, a, true);
                CHECK.same(shown(name, a), got, on.told(which, a, false));
                boolean isTaken = low[k] <= value && value <= high[k];
                for (int what = 0; what <= 13; what++) {
                    CHECK.same("33: count(" + what + ") after " + shown(name, a), on.x.count(what), on.m.count(what));
                }
                CHECK.same(shown(name, a) + " is refused", on.x.count(8), isTaken ? 0 : 1);
            }
        }
    }

    private void begin(int which) {
        for (int k = 0; k < 3; k++) {
            officer();
            ship(k, k);
            CHECK.same("31: image", x.image(), m.image());
        }
        if (which == 1) {
            signs(0, 1, 40);
        }
        feed(which == 6 ? "lean up 1;" : "sea 1 from 1;");
    }

    private long told(int which, int[] a, boolean isIts) {
        switch (which) {
            case 0: return isIts ? x.ship(a[0], a[1]) : m.ship(a[0], a[1]);
            case 1: return isIts ? x.signs(a[0], a[1], a[2]) : m.signs(a[0], a[1], a[2]);
            case 2: return (isIts ? x.trust(a[0], false) : m.trust(a[0], false)) ? 1 : 0;
            case 3: return (isIts ? x.set(a[0], a[1]) : m.set(a[0], a[1])) ? 1 : 0;
            case 4: return isIts ? x.read(a[0], a[1], a[2], a[3], a[4]) : m.read(a[0], a[1], a[2], a[3], a[4]);
            case 5: return isIts ? x.scale(a[0], a[1]) : m.scale(a[0], a[1]);
            case 6: return isIts ? x.habits(a[0], a[1]) : m.habits(a[0], a[1]);
            default: return isIts ? x.back(a[0]) : m.back(a[0]);
        }
    }
}
