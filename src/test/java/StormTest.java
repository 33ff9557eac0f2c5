/** Promises 29 and 30: the cells that a storm can be in. */
public final class StormTest {
    private static final Check CHECK = new Check("StormTest");

    public static void main(String[] args) {
        nothingRead();
        notAsTold();
        oneWatch();
        radius();
        further();
        edges();
        waysThatAgree();
        noWay();
        asItIsAsked();
        sixty();
        waysFromFar();
        CHECK.end();
    }

    private static void same(String what, long got, long want) {
        CHECK.same(what, got, want);
    }

    private static void nothingRead() {
        WindWords x = new WindWords();
        same("30: no storm", x.way(0, 0), -1);
        same("30: no storm", x.way(0, -1), -1);
        same("29: anywhere", x.storm(5, 7, 0, 0), 1);
        for (int watch = 5; watch <= 7; watch++) {
            same("30: all cells", x.way(watch, -1), 64);
            same("30: first cell", x.way(watch, 0), 1);
            same("30: last cell", x.way(watch, 63), 1);
        }
        same("30: before", x.way(4, -1), -1);
        same("30: after", x.way(8, -1), -1);
        same("30: cell below", x.way(5, -2), -1);
        same("30: cell above", x.way(5, 64), -1);
    }

    private static void notAsTold() {
        WindWords x = new WindWords();
        x.storm(5, 7, 0, 0);
        int[][] wrong = {
            {-1, 3, 0, 0}, {0, 1000, 0, 0}, {7, 6, 0, 0}, {0, 60, 0, 0}, {0, 0, -1, 0}, {0, 0, 8, 0}, {0, 0, 0, -1}, {0, 0, 0, 13},
            {1000, 1000, 0, 0}, {Integer.MIN_VALUE, Integer.MAX_VALUE, 0, 0},
        };
        for (int[] w : wrong) {
            same("29: not as told", x.storm(w[0], w[1], w[2], w[3]), -1);
        }
        same("29: that before stays", x.way(7, -1), 64);
        same("29: and nothing else", x.way(0, -1), -1);
        same("29: sixty watches", x.storm(0, 59, 7, 12), 1);
        same("30: the last of them", x.way(59, -1), 64);
        same("30: not that before", x.way(60, -1), -1);
        same("29: the last watch", x.storm(999, 999, 0, 0), 1);
    }

    private static void oneWatch() {
        WindWords x = Check.crew(4);
        x.read(0, 3, 2700, 0, 8);
        x.read(1, 3, 0, 0, 3);
        x.read(2, 3, 6300, 3, 99);
        x.read(3, 4, 0, 0, 12);
        same("29: one watch", x.storm(3, 3, 0, 8), 1);
        same("30: under the ship alone", x.way(3, -1), 1);
        same("30: there", x.way(3, 27), 1);
        same("30: not beside it", x.way(3, 28), 0);
        same("29: a line above", x.storm(3, 3, 0, 9), 1);
        same("30: under none of both", x.way(3, -1), 62);
        same("30: not there", x.way(3, 27), 0);
        same("30: nor there", x.way(3, 0), 0);
        same("30: a cup tells nothing", x.way(3, 63), 1);
    }

    private static void radius() {
        WindWords x = Check.crew(1);
        x.read(0, 3, 2700, 0, 8);
        int[] cells = {1, 9, 25, 49, 64, 64, 64, 64};
        for (int radius = 0; radius < 8; radius++) {
            same("29: radius " + radius, x.storm(3, 3, radius, 8), 1);
            same("30: cells within " + radius, x.way(3, -1), cells[radius]);
        }
        for (int radius = 0; radius < 8; radius++) {
            same("29: further than " + radius, x.storm(3, 3, radius, 9), cells[radius] < 64 ? 1 : 0);
            same("30: cells further than " + radius, x.way(3, -1), 64 - cells[radius]);
        }
    }

    private static void further() {
        WindWords x = Check.crew(2);
        x.read(0, 3, 0, 1, 5);
        x.read(1, 3, 100, 2, 4);
        x.storm(3, 3, 1, 5);
        // within 1 of cell 0 and further than 1 from cell 1
        same("30: nowhere", x.way(3, -1), 0);
        x = Check.crew(2);
        x.read(0, 3, 0, 1, 5);
        x.read(1, 3, 200, 2, 4);
        x.storm(3, 3, 1, 5);
        same("30: the west column", x.way(3, -1), 2);
        same("30: north", x.way(3, 0), 1);
        same("30: south", x.way(3, 8), 1);
    }

    private static void edges() {
        int[] corners = {0, 7, 56, 63, 8, 15, 31, 32};
        int[] cells = {4, 4, 4, 4, 6, 6, 6, 6};
        for (int k = 0; k < corners.length; k++) {
            WindWords x = Check.crew(1);
            x.read(0, 3, 100 * corners[k], 0, 8);
            x.storm(3, 4, 0, 8);
            same("30: one step from " + corners[k], x.way(4, -1), cells[k]);
            x.storm(3, 3, 1, 8);
            same("30: within 1 of " + corners[k], x.way(3, -1), cells[k]);
        }
    }

    private static void waysThatAgree() {
        WindWords x = Check.crew(1);
        x.read(0, 0, 0, 0, 8);
        x.read(0, 4, 400, 0, 8);
        same("29: just in time", x.storm(0, 4, 0, 8), 1);
        for (int watch = 0; watch <= 4; watch++) {
            // at watch k it is k from the west; up to the middle it may swerve
            int[] cells = {1, 2, 3, 2, 1};
            same("30: cells on " + watch, x.way(watch, -1), cells[watch]);
            same("30: straight on " + watch, x.way(watch, watch), 1);
        }
        same("30: one south", x.way(2, 8 + 2), 1);
        same("30: two south", x.way(2, 16 + 2), 1);
        same("30: three south", x.way(2, 24 + 2), 0);
        same("30: too far back", x.way(2, 1), 0);
        same("30: no way back on the first", x.way(0, 1), 0);
    }

    private static void noWay() {
        WindWords x = Check.crew(2);
        x.read(0, 0, 0, 0, 8);
        x.read(0, 3, 400, 0, 8);
        same("29: too fast", x.storm(0, 3, 0, 8), 0);
        for (int watch = 0; watch <= 3; watch++) {
            same("30: nowhere on " + watch, x.way(watch, -1), 0);
        }
        same("30: not even there", x.way(0, 0), 0);
        same("29: a wider one", x.storm(0, 3, 1, 8), 1);
    }

    private static void asItIsAsked() {
        WindWords x = Check.crew(2);
        x.read(0, 0, 0, 0, 8);
        x.image();
        same("29: told", x.storm(0, 1, 0, 8), 1);
        same("30: next to it", x.way(1, -1), 4);
        x.read(1, 1, 900, 0, 8);
        same("30: one told later", x.way(1, -1), 1);
        x.read(0, 1, 6300, 0, 8);
        same("30: one that agrees not", x.way(0, -1), 0);
        x.trust(1, false);
        same("30: neither then", x.way(0, -1), 0);
        x.trust(0, false);
        same("30: none trusted", x.way(0, -1), 64);
        x.back(0);
        same("30: as it was", x.way(1, -1), 4);
        x.storm(0, 2000, 0, 8);
        same("30: still that storm", x.way(1, -1), 4);
        same("29: one without a way is told, too", x.storm(0, 0, 7, 9), 0);
        same("30: nowhere", x.way(0, -1), 0);
        same("30: that before is gone", x.way(1, -1), -1);
        same("29: not refused", x.count(8), 0);
    }

    private static void sixty() {
        WindWords x = Check.crew(1);
        x.read(0, 100, 0, 0, 8);
        x.read(0, 159, 6300, 0, 8);
        same("29: sixty", x.storm(100, 159, 0, 8), 1);
        same("30: at first", x.way(100, -1), 1);
        same("30: at last", x.way(159, -1), 1);
        same("30: four on the way", x.way(104, -1), 25);
        same("30: in the middle", x.way(130, -1), 64);
        same("30: one before the last", x.way(158, -1), 4);
    }

    /** A row of ships that see no storm is a wall that it can't pass. */
    private static void waysFromFar() {
        WindWords x = Check.crew(9);
        for (int watch = 0; watch <= 3; watch++) {
            for (int y = 0; y < 8; y++) {
                x.read(y, watch, 100 * (8 * y + 3), 0, 0);
            }
        }
        x.read(8, 0, 0, 0, 9);
        same("29: behind the wall", x.storm(0, 3, 0, 9), 1);
        same("30: on its side", x.way(3, -1), 12);
        same("30: not beyond", x.way(3, 4), 0);
    }
}
