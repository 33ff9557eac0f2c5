import java.util.Random;

/** Random runs of 512 calls, with seeds that are always the same ones: each answer must be the plain model's. */
public final class RandomRunsTest {
    private static final int RUNS = 300;

    private final Check check;
    private final int run;
    private final Random random;
    private final WindWords x = new WindWords();
    private final Model m = new Model();
    /** How crowded a run is: few watches and cells bring readings into sight. */
    private final int watches;
    private final int firstWatch;
    private final int cells;
    private final int honesty;

    private RandomRunsTest(Check check, int run) {
        this.check = check;
        this.run = run;
        random = new Random(run * 7919L + 17);
        watches = 1 + random.nextInt(run % 3 == 0 ? 40 : 12);
        firstWatch = random.nextInt(4) == 0 ? 0 : random.nextInt(1000 - watches);
        cells = 1 + random.nextInt(run % 4 == 0 ? 64 : 6);
        honesty = random.nextInt(4);
    }

    public static void main(String[] args) {
        Check check = new Check("RandomRunsTest");
        for (int run = 0; run < RUNS && !check.hasFailed(); run++) {
            new RandomRunsTest(check, run).go();
        }
        check.end();
    }

    private void go() {
        int officers = 1 + random.nextInt(16);
        int ships = 1 + random.nextInt(12);
        for (int k = 0; k < officers; k++) {
            same("officer()", x.officer(), m.officer());
        }
        for (int k = 0; k < ships; k++) {
            ship();
        }
        int texts = random.nextInt(7);
        for (int k = 0; k < texts; k++) {
            text();
        }
        for (int calls = officers + ships + 50 * texts; calls < 512 && !check.hasFailed(); calls++) {
            int which = random.nextInt(100);
            if (which < 45) {
                read();
            } else if (which < 60) {
                tell();
            } else {
                ask();
            }
        }
        for (int k = 0; k <= 14; k++) {
            same("count(" + k + ")", x.count(k), m.count(k));
        }
    }

    private void same(String call, long got, long want) {
        check.same("run " + run + ": " + call, got, want);
    }

    /** A number from low to high, seldom one beyond them. */
    private int pick(int low, int high) {
        if (random.nextInt(40) == 0) {
            int[] odd = {low - 1, high + 1, -1, Integer.MIN_VALUE, Integer.MAX_VALUE, 1000, 64, 100};
            return odd[random.nextInt(odd.length)];
        }
        return high < low ? low : low + random.nextInt(high - low + 1);
    }

    private int pickWatch() {
        return random.nextInt(20) == 0 ? pick(0, 999) : pick(firstWatch, firstWatch + watches - 1);
    }

    private int pickCell() {
        int cell = random.nextInt(cells);
        return cells > 8 ? cell : 9 * (cell / 3) + cell % 3;
    }

    private int pickShip() {
        return pick(0, m.rigs.size() - 1);
    }

    private int pickOfficer() {
        return pick(0, m.officers - 1);
    }

    private int pickYear() {
        return random.nextBoolean() ? pick(0, 9) : firstWatch / 100;
    }

    private void ship() {
        int rig = pick(0, 3);
        int officer = pickOfficer();
        same("ship(" + rig + ", " + officer + ")", x.ship(rig, officer), m.ship(rig, officer));
    }

    private void read() {
        int ship = pickShip();
        int watch = pickWatch();
        int spot = random.nextInt(60) == 0 ? pick(0, 6399)
                : 100 * pickCell() + 10 * random.nextInt(3) + Math.max(0, random.nextInt(6) - 3);
        int kind = pick(0, 3);
        int wave = (watch * 37 + 11) % 90;
        int number = kind == 3 ? pick(wave, wave + 9)
                : honesty == 0 ? pick(0, 12) : pick(wave / 8, wave / 8 + honesty);
        if (kind != 3 && random.nextInt(3) == 0) {
            number = m.numberOn(ship, watch - 1, number);
        }
        same("read(" + ship + ", " + watch + ", " + spot + ", " + kind + ", " + number + ")",
                x.read(ship, watch, spot, kind, number), m.read(ship, watch, spot, kind, number));
    }

    private void text() {
        boolean isScale = random.nextInt(3) > 0;
        String text = TextMaker.text(random, isScale);
        text = text.length() > 900 ? text.substring(0, 900) : text;
        check.feed(x, m, text);
        int n = random.nextInt(10) == 0 ? pick(0, text.length()) : text.length();
        if (isScale) {
            int year = random.nextInt(3) == 0 ? pick(0, 9) : pick(0, firstWatch / 100);
            same("scale(" + n + ", " + year + ") of " + text, x.scale(n, year), m.scale(n, year));
        } else {
            int officer = pickOfficer();
            same("habits(" + officer + ", " + n + ") of " + text, x.habits(officer, n), m.habits(officer, n));
        }
        same("fault() of " + text, x.fault(), m.fault());
        same("count(12)", x.count(12), m.count(12));
    }

    private void tell() {
        int officer = pickOfficer();
        int ship = pickShip();
        int watch = pickWatch();
        switch (random.nextInt(12)) {
            case 0:
                same("officer()", x.officer(), m.officer());
                break;
            case 1:
                ship();
                break;
            case 2:
            case 3:
                same("signs(" + ship + ", " + officer + ", " + watch + ")", x.signs(ship, officer, watch), m.signs(ship, officer, watch));
                break;
            case 4:
            case 5:
                boolean is = random.nextInt(3) > 0;
                same("trust(" + officer + ", " + is + ")", x.trust(officer, is) ? 1 : 0, m.trust(officer, is) ? 1 : 0);
                break;
            case 6:
            case 7:
                int sight = random.nextBoolean() ? pick(0, 7) : 1;
                int error = pick(0, 5);
                same("set(" + sight + ", " + error + ")", x.set(sight, error) ? 1 : 0, m.set(sight, error) ? 1 : 0);
                break;
            case 8:
                same("image()", x.image(), m.image());
                break;
            case 9:
                if (random.nextInt(4) == 0) {
                    int image = pick(0, m.count(11) - 1);
                    same("back(" + image + ")", x.back(image), m.back(image));
                }
                break;
            case 10:
                storm(watch);
                break;
            default:
                text();
        }
    }

    private void storm(int from) {
        int to = random.nextInt(3) == 0 ? pick(from, Math.min(999, from + 62)) : Math.min(999, from + random.nextInt(6));
        int radius = random.nextBoolean() ? pick(0, 7) : 1;
        int line = pick(0, 12);
        same("storm(" + from + ", " + to + ", " + radius + ", " + line + ")", x.storm(from, to, radius, line), m.storm(from, to, radius, line));
        for (int k = 0; k < 3; k++) {
            way(from + random.nextInt(7));
        }
    }

    private void way(int watch) {
        int cell = pick(-1, 63);
        same("way(" + watch + ", " + cell + ")", x.way(watch, cell), m.way(watch, cell));
        same("way(" + watch + ", -1)", x.way(watch, -1), m.way(watch, -1));
    }

    private void ask() {
        if (random.nextBoolean()) {
            askScales();
        } else {
            askReadings();
        }
    }

    private void askScales() {
        int year = pickYear();
        int kind = pick(0, 2);
        int wind = pick(0, 99);
        int number = pick(0, 12);
        int mix = pick(0, 39);
        int ship = pickShip();
        int watch = pickWatch();
        switch (random.nextInt(6)) {
            case 0:
                same("reads(" + year + ", " + kind + ", " + wind + ", " + mix + ")", x.reads(year, kind, wind, mix), m.reads(year, kind, wind, mix));
                break;
            case 1:
                int depth = pick(0, 9);
                same("blow(" + ship + ", " + watch + ", " + kind + ", " + wind + ", " + depth + ")",
                        x.blow(ship, watch, kind, wind, depth), m.blow(ship, watch, kind, wind, depth));
                break;
            case 2:
                int seed = random.nextBoolean() ? pick(0, 999999999) : pick(0, 9);
                int n = pick(1, random.nextBoolean() ? 1000 : 5);
                same("run(" + ship + ", " + watch + ", " + seed + ", " + n + ", " + number + ")",
                        x.run(ship, watch, seed, n, number), m.run(ship, watch, seed, n, number));
                break;
            case 3:
                int what = pick(0, 1);
                same("column(" + year + ", " + kind + ", " + mix + ", " + number + ", " + what + ")",
                        x.column(year, kind, mix, number, what), m.column(year, kind, mix, number, what));
                break;
            case 4:
                int other = pick(0, 9);
                for (int k = -1; k <= 4; k++) {
                    same("turn(" + kind + ", " + year + ", " + number + ", " + other + ", " + k + ")",
                            x.turn(kind, year, number, other, k), m.turn(kind, year, number, other, k));
                }
                break;
            default:
                int scale = pick(-1, m.count(3) - 1);
                same("alike(" + scale + ")", x.alike(scale), m.alike(scale));
        }
    }

    private void askReadings() {
        int officer = pickOfficer();
        int year = pickYear();
        int what = pick(0, 3);
        switch (random.nextInt(13)) {
            case 0:
                int k = pick(0, m.count(2) - 1);
                int which = pick(0, 8);
                same("reading(" + k + ", " + which + ")", x.reading(k, which), m.reading(k, which));
                break;
            case 1:
                same("tight()", x.tight(), m.tight());
                break;
            case 2:
            case 3:
                same("lean(" + officer + ", " + what + ")", x.lean(officer, what % 2), m.lean(officer, what % 2));
                break;
            case 4:
                int number = pick(1, 11);
                same("liked(" + officer + ", " + number + ", " + what + ")", x.liked(officer, number, what), m.liked(officer, number, what));
                break;
            case 5:
            case 6:
                same("wind(" + year + ", " + what + ")", x.wind(year, what), m.wind(year, what));
                break;
            case 7:
                same("grew(" + what + ")", x.grew(what), m.grew(what));
                break;
            case 8:
                int lag = pick(0, 30);
                same("late(" + lag + ")", x.late(lag), m.late(lag));
                same("late(" + what + ")", x.late(what), m.late(what));
                break;
            case 9:
                int ship = pickShip();
                same("copied(" + ship + ", " + what + ")", x.copied(ship, what), m.copied(ship, what));
                int find = pick(0, 3);
                same("find(" + find + ")", x.find(find), m.find(find));
                break;
            case 10:
                same("wished(" + officer + ", " + what + ")", x.wished(officer, what), m.wished(officer, what));
                break;
            case 11:
                int line = pick(0, 12);
                int wind = pick(0, 99);
                int coin = pick(0, 9999);
                same("eight(" + line + ", " + wind + ", " + coin + ", " + what + ")", x.eight(line, wind, coin, what), m.eight(line, wind, coin, what));
                break;
            default:
                way(pickWatch());
        }
    }
}
