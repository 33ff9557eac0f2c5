/** A scale for the wind that asks no glass. The numbered promises that it keeps stand in DOC.md. */
public final class WindWords {
    /** There is none. */
    public static final int NONE = -1;

    private static final int OFFICERS = 16;
    private static final int SHIPS = 12;
    private static final int READINGS = 300;
    private static final int SCALES = 8;
    private static final int SIGNINGS = 60;
    private static final int IMAGES = 4;
    private static final int YEARS = 10;
    private static final int LAGS = 10;
    private static final int WINDS = 100;
    private static final int LAST_WATCH = 999;
    private static final int LAST_CELL = 63;
    private static final int HIGHEST_NUMBER = 12;
    private static final int LONGEST_STORM = 60;
    private static final int MOST_WISHED = 12;

    private static final int CANVAS = 0;
    private static final int SEA = 1;
    private static final int LEAF = 2;
    private static final int CUP = 3;

    /** The words that a comparison asks of, in the order of the row that holds what they are. */
    private static final int RIG_WORD = 0;
    private static final int DEPTH_WORD = 1;
    private static final int YEAR_WORD = 2;
    private static final int NUMBER_WORD = 3;
    private static final int SPARS_WORD = 4;
    private static final int WORDS = 5;

    private static final int NOT_AS_TOLD = 0;
    private static final int NO_ROOM = 1;
    private static final int FAULTY = 2;

    private static final int NOT_DONE = -2;
    private static final int NO_SCALE_LEFT = -3;
    private static final int NO_LEAN = -2000;
    private static final int NO_LIKING = -200;
    private static final int NO_WISH = -1000000;
    private static final int NO_CONTRACT = -1000000000;
    private static final long CERTAIN = 1000000000L;

    private final Fleet fleet = new Fleet();
    private final Scales scales = new Scales();
    private final Leans leans = new Leans();
    private final Winds winds = new Winds();
    private final Storm track = new Storm();
    private final Tape tape = new Tape();
    private final Grammar grammar = new Grammar();
    private final Rules[] habitsOf = new Rules[OFFICERS];
    private final Image[] images = new Image[IMAGES];
    private final int[] refused = new int[3];
    private final int[] asked = new int[WORDS];
    private final int[] windRow = new int[WINDS];
    private final int[] turnedRow = new int[READINGS];
    private final int[] lagSum = new int[LAGS];
    private final int[] lagCouples = new int[LAGS];
    private final int[] wishes = new int[MOST_WISHED];
    private Rules spare = new Rules();
    private int imagesMade = 0;
    private int faultPlace = NONE;

    public WindWords() {
    }

    public int officer() {
        if (fleet.officers >= OFFICERS) {
            return refuse(NO_ROOM, NONE);
        }
        fleet.officers++;
        return fleet.officers - 1;
    }

    public int ship(int rig, int officer) {
        if (!within(rig, 3) || !fleet.hasOfficer(officer)) {
            return refuse(NOT_AS_TOLD, NONE);
        }
        if (fleet.ships >= SHIPS) {
            return refuse(NO_ROOM, NONE);
        }
        return fleet.launch(rig, officer);
    }

    public int signs(int ship, int officer, int watch) {
        Ship signed = fleet.shipAt(ship);
        if (signed == null || !fleet.hasOfficer(officer)
                || watch <= signed.signedFrom || watch > LAST_WATCH) {
            return refuse(NOT_AS_TOLD, NONE);
        }
        if (fleet.signed >= SIGNINGS) {
            return refuse(NO_ROOM, NONE);
        }
        signed.signFrom(watch, officer);
        fleet.signed++;
        return fleet.signed;
    }

    public boolean trust(int officer, boolean is) {
        if (!fleet.hasOfficer(officer)) {
            refuse(NOT_AS_TOLD, NONE);
            return false;
        }
        fleet.setTrusted(officer, is);
        return true;
    }

    public boolean set(int sight, int error) {
        if (!within(sight, 7) || !within(error, 5)) {
            refuse(NOT_AS_TOLD, NONE);
            return false;
        }
        fleet.sight = sight;
        fleet.error = error;
        return true;
    }

    public int read(int ship, int watch, int spot, int kind, int number) {
        Ship reader = fleet.shipAt(ship);
        if (reader == null || !within(watch, LAST_WATCH) || !within(spot, 100 * LAST_CELL + 99)
                || !within(kind, CUP) || !within(number, kind == CUP ? WINDS - 1 : HIGHEST_NUMBER)
                || reader.readingOn(watch) != null) {
            return refuse(NOT_AS_TOLD, NONE);
        }
        if (fleet.readings >= READINGS) {
            return refuse(NO_ROOM, NONE);
        }
        return fleet.add(new Reading(reader, watch, spot, kind, number));
    }

    public int feed(int a, int b, int c, int d, int e) {
        if (tape.size + 20 > Tape.MOST_BYTES) {
            return NONE;
        }
        tape.put(a);
        tape.put(b);
        tape.put(c);
        tape.put(d);
        tape.put(e);
        return tape.size;
    }

    public int scale(int n, int year) {
        if (!within(n, tape.size) || !within(year, YEARS - 1)) {
            return refuse(NOT_AS_TOLD, NOT_DONE);
        }
        if (scales.told >= SCALES) {
            return refuse(NO_ROOM, NO_SCALE_LEFT);
        }
        if (!understood(n, true)) {
            return refuse(FAULTY, NONE);
        }
        int place = scales.add(spare, year);
        spare = new Rules();
        return place;
    }

    public int habits(int officer, int n) {
        if (!fleet.hasOfficer(officer) || !within(n, tape.size)) {
            return refuse(NOT_AS_TOLD, NOT_DONE);
        }
        if (!understood(n, false)) {
            return refuse(FAULTY, NONE);
        }
        Rules former = habitsOf[officer];
        habitsOf[officer] = spare;
        int statements = spare.statements;
        spare = former == null ? new Rules() : former;
        return statements;
    }

    public int fault() {
        return faultPlace;
    }

    public int reading(int k, int what) {
        Reading r = fleet.readingAt(k);
        if (r == null) {
            return NONE;
        }
        switch (what) {
            case 0: return r.ship.place;
            case 1: return r.watch;
            case 2: return r.cell;
            case 3: return r.kind;
            case 4: return r.number;
            case 5: return r.depth;
            case 6: return r.spars;
            case 7: return r.writer();
            case 8: return isCopied(r) ? 1 : 0;
            default: return NONE;
        }
    }

    public int reads(int year, int kind, int wind, int mix) {
        if (!within(year, YEARS - 1) || !within(kind, LEAF) || !within(wind, WINDS - 1) || !within(mix, 39)) {
            return NONE;
        }
        return scales.numberFor(scales.ofYear(year), kind, wind, mix, year);
    }

    public int blow(int ship, int watch, int kind, int wind, int depth) {
        Ship blown = fleet.shipAt(ship);
        if (blown == null || !within(watch, LAST_WATCH) || !within(kind, LEAF)
                || !within(wind, WINDS - 1) || !within(depth, 9)) {
            return NONE;
        }
        int year = watch / 100;
        int seen = scales.numberFor(scales.ofYear(year), kind, wind, 10 * blown.rig + depth, year);
        return written(blown, watch, seen);
    }

    public int run(int ship, int watch, int seed, int n, int number) {
        Ship blown = fleet.shipAt(ship);
        if (blown == null || !within(watch, LAST_WATCH) || !within(seed, 999999999)
                || n < 1 || n > 1000 || !within(number, HIGHEST_NUMBER)) {
            return NONE;
        }
        int year = watch / 100;
        scales.fillRow(windRow, scales.ofYear(year), CANVAS, 10 * blown.rig, year);
        for (int w = 0; w < WINDS; w++) {
            windRow[w] = written(blown, watch, windRow[w]);
        }
        long z = seed;
        int often = 0;
        for (int k = 0; k < n; k++) {
            z = z * 6364136223846793005L + 1442695040888963407L;
            if (windRow[(int) ((z >>> 33) % WINDS)] == number) {
                often++;
            }
        }
        return often;
    }

    public int column(int year, int kind, int mix, int number, int what) {
        if (!within(year, YEARS - 1) || !within(kind, LEAF) || !within(mix, 39)
                || !within(number, HIGHEST_NUMBER) || !within(what, 1)) {
            return NONE;
        }
        scales.fillRow(windRow, scales.ofYear(year), kind, mix, year);
        return what == 0 ? leastWind(windRow, number, number) : greatestWind(windRow, number, number);
    }

    public int turn(int kind, int year, int number, int other, int what) {
        if (!within(kind, LEAF) || !within(year, YEARS - 1) || !within(number, HIGHEST_NUMBER)
                || !within(other, YEARS - 1) || !within(what, 3)) {
            return NONE;
        }
        if (!scales.turnInto(scales.ofYear(other), other, kind, year, number)) {
            return NONE;
        }
        return scales.turned[what];
    }

    public int tight() {
        return leans.solve(fleet, scales) ? 1 : 0;
    }

    public int lean(int officer, int what) {
        if (!fleet.hasOfficer(officer) || !within(what, 1) || !leans.solve(fleet, scales)) {
            return NO_LEAN;
        }
        return what == 0 ? leans.least(officer) : leans.greatest(officer);
    }

    public int liked(int officer, int number, int what) {
        if (!fleet.hasOfficer(officer) || number < 1 || number > 11 || !within(what, 3)) {
            return NO_LIKING;
        }
        int times = timesWritten(officer, number, number);
        int twice = timesWritten(officer, number - 1, number + 1) - times;
        switch (what) {
            case 0: return times;
            case 1: return twice;
            case 2: return 4 * times < twice ? -1 : times > twice ? 1 : 0;
            default: return times > 0 ? NONE : odds(timesWritten(officer, 0, HIGHEST_NUMBER), twice);
        }
    }

    public int wind(int year, int what) {
        if (!within(year, YEARS - 1) || !within(what, 2) || !leans.solve(fleet, scales)) {
            return NONE;
        }
        winds.gather(year, fleet, scales, leans);
        if (what == 0) {
            return winds.kept;
        }
        if (winds.kept == 0) {
            return NONE;
        }
        return (what == 1 ? winds.leastSum : winds.greatestSum) / winds.kept;
    }

    public int grew(int what) {
        if (!within(what, 3) || !leans.solve(fleet, scales)) {
            return NONE;
        }
        winds.gatherValues(fleet, scales, leans);
        switch (what) {
            case 0: return winds.rising();
            case 1: return winds.ordersRising(winds.rising());
            case 2: return winds.ordersRising(0);
            default: return winds.values;
        }
    }

    public int late(int what) {
        gatherLags();
        int best = bestLag();
        if (within(what, 2)) {
            if (best == NONE) {
                return NONE;
            }
            return what == 0 ? best : what == 1 ? lagSum[best] : lagCouples[best];
        }
        if (what >= 10 && what - 10 < LAGS) {
            return lagSum[what - 10];
        }
        if (what >= 20 && what - 20 < LAGS) {
            return lagCouples[what - 20];
        }
        return NONE;
    }

    public int copied(int ship, int what) {
        if (fleet.shipAt(ship) == null || !within(what, 2)) {
            return NONE;
        }
        int many = 0;
        for (int k = 0; k < fleet.readings; k++) {
            Reading r = fleet.readingAt(k);
            if (r != null && r.ship.place == ship && (what == 0 ? follows(r) : what == 1 ? repeats(r) : isCopied(r))) {
                many++;
            }
        }
        return many;
    }

    public int find(int k) {
        int before = 0;
        for (int i = 0; i < fleet.readings; i++) {
            Reading r = fleet.readingAt(i);
            if (r != null && isCopied(r)) {
                if (before == k) {
                    return i;
                }
                before++;
            }
        }
        return NONE;
    }

    public int wished(int officer, int what) {
        if (!fleet.hasOfficer(officer) || !within(what, 3)) {
            return NO_WISH;
        }
        int many = 0;
        int lost = 0;
        for (int k = 0; k < fleet.readings && many < MOST_WISHED; k++) {
            Reading r = fleet.mansAt(k);
            Reading other = r == null || r.writer() != officer ? null : firstBeside(r);
            if (r != null && other != null) {
                wishes[many] = r.number - other.number;
                lost |= r.spars > 0 ? 1 << many : 0;
                many++;
            }
        }
        int lead = leadOf(lost, many);
        switch (what) {
            case 0: return waysLeading(lost, many, lead);
            case 1: return waysLeading(lost, many, NO_WISH);
            case 2: return lead;
            default: return many;
        }
    }

    public int eight(int line, int wind, int coin, int what) {
        if (!within(line, HIGHEST_NUMBER) || !within(wind, WINDS - 1) || !within(coin, 9999) || !within(what, 3)) {
            return NO_CONTRACT;
        }
        int couples = 0;
        int byWords = 0;
        int byWind = 0;
        for (int k = 0; k < fleet.readings; k++) {
            Reading r = fleet.mansAt(k);
            for (int s = 0; s < fleet.ships; s++) {
                Reading cup = fleet.cupBeside(r, s);
                if (r != null && cup != null) {
                    couples++;
                    byWords += r.number >= line ? 1 : 0;
                    byWind += cup.number >= wind ? 1 : 0;
                }
            }
        }
        switch (what) {
            case 0: return couples;
            case 1: return byWords;
            case 2: return byWind;
            default: return coin * (byWords - byWind);
        }
    }

    public int alike(int scale) {
        if (within(scale, scales.told - 1)) {
            return unlikeness(scale);
        }
        if (scale != NONE) {
            return NONE;
        }
        int best = NONE;
        int least = 0;
        for (int k = 0; k < scales.told; k++) {
            int sum = unlikeness(k);
            if (best == NONE || sum < least) {
                best = k;
                least = sum;
            }
        }
        return best;
    }

    public int storm(int from, int to, int radius, int line) {
        if (!within(from, LAST_WATCH) || !within(to, LAST_WATCH) || to < from
                || to - from >= LONGEST_STORM || !within(radius, 7) || !within(line, HIGHEST_NUMBER)) {
            return NONE;
        }
        track.tell(from, to, radius, line);
        track.follow(fleet);
        return track.cellsOn(from) == 0L ? 0 : 1;
    }

    public int way(int watch, int cell) {
        if (!track.lasts(watch) || cell < NONE || cell > LAST_CELL) {
            return NONE;
        }
        track.follow(fleet);
        long cells = track.cellsOn(watch);
        return cell == NONE ? Long.bitCount(cells) : (int) (cells >>> cell & 1L);
    }

    public int image() {
        if (imagesMade >= IMAGES) {
            return refuse(NO_ROOM, NONE);
        }
        images[imagesMade] = new Image(fleet);
        imagesMade++;
        return imagesMade - 1;
    }

    public int back(int image) {
        Image former = within(image, imagesMade - 1) ? images[image] : null;
        if (former == null || fleet.readings < former.readings) {
            return refuse(NOT_AS_TOLD, NONE);
        }
        int gone = fleet.readings - former.readings;
        fleet.forgetFrom(former.readings);
        fleet.distrusted = former.distrusted;
        fleet.sight = former.sight;
        fleet.error = former.error;
        return gone;
    }

    public int count(int what) {
        switch (what) {
            case 0: return fleet.officers;
            case 1: return fleet.ships;
            case 2: return fleet.readings;
            case 3: return scales.told;
            case 4: return fleet.sight;
            case 5: return fleet.error;
            case 6: return fleet.signed;
            case 7: return fleet.officers - Integer.bitCount(fleet.distrusted);
            case 8: return refused[NOT_AS_TOLD];
            case 9: return refused[NO_ROOM];
            case 10: return refused[FAULTY];
            case 11: return imagesMade;
            case 12: return tape.size;
            case 13: return statementsOfHabits();
            default: return NONE;
        }
    }

    private static boolean within(int x, int most) {
        return x >= 0 && x <= most;
    }

    private static int held(int number) {
        return Math.max(0, Math.min(HIGHEST_NUMBER, number));
    }

    private static int far(int oneCell, int otherCell) {
        return Math.max(Math.abs(oneCell % 8 - otherCell % 8), Math.abs(oneCell / 8 - otherCell / 8));
    }

    /** The least WIND of a row with a number from low to high, or NONE. */
    private static int leastWind(int[] row, int low, int high) {
        for (int w = 0; w < row.length; w++) {
            if (row[w] >= low && row[w] <= high) {
                return w;
            }
        }
        return NONE;
    }

    private static int greatestWind(int[] row, int low, int high) {
        for (int w = row.length - 1; w >= 0; w--) {
            if (row[w] >= low && row[w] <= high) {
                return w;
            }
        }
        return NONE;
    }

    private int refuse(int reason, int answer) {
        refused[reason]++;
        return answer;
    }

    /** Takes a text from the tape into the spare rules; the tape is empty then in any case. */
    private boolean understood(int n, boolean isScale) {
        tape.split(n);
        faultPlace = grammar.faultOf(tape, spare, isScale);
        tape.size = 0;
        return faultPlace == NONE;
    }

    private int written(Ship ship, int watch, int number) {
        int officer = ship.officerOn(watch);
        Rules habit = within(officer, OFFICERS - 1) ? habitsOf[officer] : null;
        if (habit == null) {
            return number;
        }
        asked[RIG_WORD] = ship.rig;
        asked[YEAR_WORD] = watch / 100;
        asked[SPARS_WORD] = 0;
        return habit.written(number, asked);
    }

    private int statementsOfHabits() {
        int all = 0;
        for (int k = 0; k < OFFICERS; k++) {
            Rules habit = habitsOf[k];
            all += habit == null ? 0 : habit.statements;
        }
        return all;
    }

    private int timesWritten(int officer, int low, int high) {
        int times = 0;
        for (int k = 0; k < fleet.readings; k++) {
            Reading r = fleet.mansAt(k);
            if (r != null && r.writer() == officer && r.number >= low && r.number <= high) {
                times++;
            }
        }
        return times;
    }

    private static int odds(int all, int twice) {
        if (all <= 0) {
            return NONE;
        }
        long chance = CERTAIN;
        for (int k = 0; k < all; k++) {
            chance = chance * (2 * all - twice) / (2 * all);
        }
        return (int) chance;
    }

    private void gatherLags() {
        for (int lag = 0; lag < LAGS; lag++) {
            lagSum[lag] = 0;
            lagCouples[lag] = 0;
        }
        for (int k = 0; k < fleet.readings; k++) {
            Reading sea = fleet.trustedMansAt(k);
            if (sea != null && sea.kind == SEA) {
                gatherLagsOf(sea);
            }
        }
    }

    private void gatherLagsOf(Reading sea) {
        scales.fillRow(windRow, scales.ofYear(sea.year()), SEA, sea.mix(), sea.year());
        for (int s = 0; s < fleet.ships; s++) {
            Ship ahead = fleet.shipAt(s);
            for (int lag = 0; lag < LAGS && ahead != null; lag++) {
                Reading cup = ahead.readingOn(sea.watch - lag);
                if (cup != null && !cup.isMans() && cup.cell == sea.cell && within(cup.number, WINDS - 1)) {
                    lagSum[lag] += Math.abs(sea.number - windRow[cup.number]);
                    lagCouples[lag]++;
                }
            }
        }
    }

    private int bestLag() {
        int best = NONE;
        for (int lag = 0; lag < LAGS; lag++) {
            if (lagCouples[lag] > 0
                    && (best == NONE || lagSum[lag] * lagCouples[best] < lagSum[best] * lagCouples[lag])) {
                best = lag;
            }
        }
        return best;
    }

    /** Whether a reading is the later one of two that are SUCCESSIVE. */
    private static boolean follows(Reading r) {
        Reading last = r.ship.readingOn(r.watch - 1);
        return last != null && r.isMans() && last.isMans() && r.writer() == last.writer();
    }

    private static boolean repeats(Reading r) {
        Reading last = r.ship.readingOn(r.watch - 1);
        return last != null && follows(r) && r.number == last.number;
    }

    private boolean isCopied(Reading r) {
        Reading last = r.ship.readingOn(r.watch - 1);
        if (last == null || !repeats(r)) {
            return false;
        }
        for (int s = 0; s < fleet.ships; s++) {
            Reading before = fleet.mansBeside(last, s);
            Reading now = fleet.mansBeside(r, s);
            if (before != null && now != null && Math.abs(now.number - before.number) >= 2) {
                return true;
            }
        }
        return false;
    }

    /** The MAN's reading of the least number that another ship has in sight of this one. */
    private Reading firstBeside(Reading r) {
        Reading first = null;
        for (int s = 0; s < fleet.ships; s++) {
            Reading other = fleet.mansBeside(r, s);
            if (other != null && (first == null || other.place < first.place)) {
                first = other;
            }
        }
        return first;
    }

    private int leadOf(int ones, int many) {
        int sumOfOnes = 0;
        int sumOfOthers = 0;
        for (int k = 0; k < many; k++) {
            if ((ones >> k & 1) == 1) {
                sumOfOnes += wishes[k];
            } else {
                sumOfOthers += wishes[k];
            }
        }
        int howMany = Integer.bitCount(ones);
        return sumOfOnes * (many - howMany) - sumOfOthers * howMany;
    }

    private int waysLeading(int ones, int many, int lead) {
        int ways = 0;
        for (int taken = 0; taken < 1 << many; taken++) {
            if (Integer.bitCount(taken) == Integer.bitCount(ones) && leadOf(taken, many) >= lead) {
                ways++;
            }
        }
        return ways;
    }

    private int unlikeness(int scale) {
        for (int k = 0; k < fleet.readings; k++) {
            Reading r = fleet.mansAt(k);
            boolean turns = r != null && scales.turnInto(scale, r.year(), r.kind, r.year(), r.number);
            turnedRow[k] = turns ? scales.turned[2] : NONE;
        }
        int sum = 0;
        for (int k = 0; k < fleet.readings; k++) {
            Reading r = fleet.mansAt(k);
            for (int s = 0; s < fleet.ships; s++) {
                Reading other = fleet.mansBeside(r, s);
                // each two are met from both sides, and counted from the later told one
                if (other != null && within(other.place, k - 1)
                        && turnedRow[k] != NONE && turnedRow[other.place] != NONE) {
                    sum += Math.abs(turnedRow[k] - turnedRow[other.place]);
                }
            }
        }
        return sum;
    }

    /** The bytes told, and the first of them split into tokens. */
    private static final class Tape {
        static final int MOST_BYTES = 900;
        static final int END = 0;
        static final int STRANGE = 1;
        static final int DIGITS = 2;
        static final int KIND_WORD = 200;
        static final int ASKED_WORD = 210;
        static final int FROM = 220;
        static final int IF = 221;
        static final int LEAN = 222;
        static final int WRITE = 223;
        static final int FOR = 224;
        static final int UP = 225;
        static final int DOWN = 226;
        static final int AND = 227;
        static final int OR = 228;
        static final int NOT = 229;
        static final int TOO_GREAT = 100000;
        static final String SIGNS = "()<>=;";

        int size = 0;
        int tokens = 0;
        private final int[] bytes = new int[MOST_BYTES];
        private final int[] code = new int[MOST_BYTES];
        private final int[] place = new int[MOST_BYTES];
        private final int[] width = new int[MOST_BYTES];
        private final int[] value = new int[MOST_BYTES];
        private int textEnd = 0;

        void put(int four) {
            for (int shift = 24; shift >= 0 && size < MOST_BYTES; shift -= 8) {
                bytes[size] = four >>> shift & 255;
                size++;
            }
        }

        void split(int n) {
            textEnd = Math.max(0, Math.min(n, size));
            tokens = 0;
            int at = 0;
            for (int k = 0; k < MOST_BYTES && at < textEnd; k++) {
                at = isBlank(bytes[at]) ? at + 1 : take(at, textEnd);
            }
        }

        /** The code of the k-th token; behind the last one END. */
        int codeAt(int k) {
            return k >= 0 && k < tokens ? code[k] : END;
        }

        int widthAt(int k) {
            return k >= 0 && k < tokens ? width[k] : 0;
        }

        /** Where the k-th token begins; behind the last one the end of the text. */
        int placeAt(int k) {
            return k >= 0 && k < tokens ? place[k] : textEnd;
        }

        private int take(int at, int end) {
            if (tokens >= MOST_BYTES) {
                return end;
            }
            int behind = at + 1;
            int number = 0;
            if (isDigit(bytes[at])) {
                number = bytes[at] - '0';
                while (behind < end && isDigit(bytes[behind])) {
                    number = Math.min(TOO_GREAT, 10 * number + bytes[behind] - '0');
                    behind++;
                }
                code[tokens] = DIGITS;
            } else if (isLetter(bytes[at])) {
                while (behind < end && isLetter(bytes[behind])) {
                    behind++;
                }
                code[tokens] = wordCode(at, behind - at);
            } else {
                code[tokens] = SIGNS.indexOf((char) bytes[at]) >= 0 ? bytes[at] : STRANGE;
            }
            place[tokens] = at;
            width[tokens] = behind - at;
            value[tokens] = number;
            tokens++;
            return behind;
        }

        private int wordCode(int at, int length) {
            for (int k = CANVAS; k <= LEAF; k++) {
                if (isWord(at, length, kindName(k))) {
                    return KIND_WORD + k;
                }
            }
            for (int k = 0; k < WORDS; k++) {
                if (isWord(at, length, askedName(k))) {
                    return ASKED_WORD + k;
                }
            }
            for (int k = FROM; k <= NOT; k++) {
                if (isWord(at, length, binderName(k))) {
                    return k;
                }
            }
            return STRANGE;
        }

        private static String kindName(int kind) {
            switch (kind) {
                case CANVAS: return "canvas";
                case SEA: return "sea";
                default: return "leaf";
            }
        }

        private static String askedName(int word) {
            switch (word) {
                case RIG_WORD: return "rig";
                case DEPTH_WORD: return "depth";
                case YEAR_WORD: return "year";
                case NUMBER_WORD: return "number";
                default: return "spars";
            }
        }

        private static String binderName(int token) {
            switch (token) {
                case FROM: return "from";
                case IF: return "if";
                case LEAN: return "lean";
                case WRITE: return "write";
                case FOR: return "for";
                case UP: return "up";
                case DOWN: return "down";
                case AND: return "and";
                case OR: return "or";
                default: return "not";
            }
        }

        private boolean isWord(int at, int length, String word) {
            if (word.length() != length || at + length > size) {
                return false;
            }
            for (int k = 0; k < length; k++) {
                if (bytes[at + k] != word.charAt(k)) {
                    return false;
                }
            }
            return true;
        }

        private static boolean isBlank(int b) {
            return b == 32 || b == 10;
        }

        private static boolean isDigit(int b) {
            return b >= '0' && b <= '9';
        }

        private static boolean isLetter(int b) {
            return b >= 'a' && b <= 'z';
        }
    }

    /** The statements of one text; what is asked in them stands as steps, each behind what it joins. */
    private static final class Rules {
        static final int MOST = 40;
        static final int MOST_STEPS = Tape.MOST_BYTES / 2;
        static final int NOT_STEP = -1;
        static final int AND_STEP = -2;
        static final int OR_STEP = -3;
        static final int VALUES = 10000;
        static final int LEAN_UP = 0;
        static final int LEAN_DOWN = 1;
        static final int WRITE_FOR = 2;

        final int[] sort = new int[MOST];
        final int[] number = new int[MOST];
        final int[] limit = new int[MOST];
        final int[] firstStep = new int[MOST + 1];
        final int[] steps = new int[MOST_STEPS];
        int statements = 0;
        int stepsTold = 0;

        void clear() {
            statements = 0;
            stepsTold = 0;
        }

        /** A statement's steps stand told already: they are all behind those of the one before. */
        void add(int itsSort, int itsNumber, int itsLimit) {
            if (statements < MOST) {
                sort[statements] = itsSort;
                number[statements] = itsNumber;
                limit[statements] = itsLimit;
                statements++;
                firstStep[statements] = stepsTold;
            }
        }

        void addStep(int step) {
            if (stepsTold < MOST_STEPS) {
                steps[stepsTold] = step;
                stepsTold++;
            }
        }

        /** The bits of a long are the stack: the one that is there at first answers for what asks nothing. */
        boolean holds(int statement, int[] words) {
            long stack = 1L;
            for (int k = firstStep[statement]; k < firstStep[statement + 1] && k < MOST_STEPS; k++) {
                int step = steps[k];
                if (step == NOT_STEP) {
                    stack ^= 1L;
                } else if (step == AND_STEP) {
                    stack = (stack >>> 1) & (stack | -2L);
                } else if (step == OR_STEP) {
                    stack = (stack >>> 1) | (stack & 1L);
                } else {
                    stack = stack << 1 | (compares(step, words) ? 1L : 0L);
                }
            }
            return (stack & 1L) == 1L;
        }

        static int comparison(int word, int sign, int value) {
            return ((sign == '<' ? 0 : sign == '>' ? 1 : 2) * WORDS + word) * VALUES + value;
        }

        private static boolean compares(int step, int[] words) {
            int word = step / VALUES % WORDS;
            int is = word >= 0 && word < words.length ? words[word] : 0;
            int value = step % VALUES;
            switch (step / VALUES / WORDS) {
                case 0: return is < value;
                case 1: return is > value;
                default: return is == value;
            }
        }

        int greatest(int kind, int wind, int[] words) {
            int best = 0;
            for (int k = 0; k < statements; k++) {
                if (sort[k] == kind && limit[k] <= wind && number[k] > best && holds(k, words)) {
                    best = number[k];
                }
            }
            return best;
        }

        /** The same as greatest() for every wind at once. */
        void fillRow(int[] row, int kind, int[] words) {
            for (int w = 0; w < row.length; w++) {
                row[w] = 0;
            }
            for (int k = 0; k < statements; k++) {
                if (sort[k] == kind && within(limit[k], row.length - 1) && number[k] > row[limit[k]] && holds(k, words)) {
                    row[limit[k]] = number[k];
                }
            }
            for (int w = 1; w < row.length; w++) {
                row[w] = Math.max(row[w], row[w - 1]);
            }
        }

        int written(int seen, int[] words) {
            words[NUMBER_WORD] = seen;
            int leant = seen;
            for (int k = 0; k < statements; k++) {
                if (sort[k] != WRITE_FOR && holds(k, words)) {
                    leant = held(sort[k] == LEAN_UP ? seen + number[k] : seen - number[k]);
                    break;
                }
            }
            for (int k = 0; k < statements; k++) {
                if (sort[k] == WRITE_FOR && limit[k] == leant) {
                    return number[k];
                }
            }
            return leant;
        }
    }

    /** Takes a split text into rules, up to the token with which no such text goes on. */
    private static final class Grammar {
        static final int MOST_OPEN = 9;
        static final int MOST_DIGITS = 4;

        private boolean ofScale = false;
        private int at = 0;

        /** The place of the FAULT, or NONE. */
        int faultOf(Tape tape, Rules rules, boolean isScale) {
            ofScale = isScale;
            at = 0;
            rules.clear();
            boolean goesOn = true;
            for (int k = 0; k < Rules.MOST && goesOn && at < tape.tokens; k++) {
                goesOn = ofScale ? takesSort(tape, rules) : takesHabit(tape, rules);
            }
            return goesOn && at >= tape.tokens ? NONE : tape.placeAt(at);
        }

        private boolean takesSort(Tape tape, Rules rules) {
            int sort = tape.codeAt(at) - Tape.KIND_WORD;
            if (sort < CANVAS || sort > LEAF) {
                return false;
            }
            at++;
            int number = numberUpTo(tape, HIGHEST_NUMBER);
            if (number == NONE || !takes(tape, Tape.FROM)) {
                return false;
            }
            int wind = numberUpTo(tape, WINDS - 1);
            if (wind == NONE || !takesCondition(tape, rules)) {
                return false;
            }
            rules.add(sort, number, wind);
            return true;
        }

        private boolean takesHabit(Tape tape, Rules rules) {
            if (takes(tape, Tape.WRITE)) {
                return takesWrite(tape, rules);
            }
            if (!takes(tape, Tape.LEAN)) {
                return false;
            }
            boolean isUp = takes(tape, Tape.UP);
            if (!isUp && !takes(tape, Tape.DOWN)) {
                return false;
            }
            int number = numberUpTo(tape, HIGHEST_NUMBER);
            if (number == NONE || !takesCondition(tape, rules)) {
                return false;
            }
            rules.add(isUp ? Rules.LEAN_UP : Rules.LEAN_DOWN, number, 0);
            return true;
        }

        private boolean takesWrite(Tape tape, Rules rules) {
            int written = numberUpTo(tape, HIGHEST_NUMBER);
            if (written == NONE || !takes(tape, Tape.FOR)) {
                return false;
            }
            int told = numberUpTo(tape, HIGHEST_NUMBER);
            if (told == NONE || !takes(tape, ';')) {
                return false;
            }
            rules.add(Rules.WRITE_FOR, written, told);
            return true;
        }

        private boolean takesCondition(Tape tape, Rules rules) {
            if (takes(tape, Tape.IF) && !takesAny(tape, rules, 0)) {
                return false;
            }
            return takes(tape, ';');
        }

        private boolean takesAny(Tape tape, Rules rules, int open) {
            if (!takesAll(tape, rules, open)) {
                return false;
            }
            for (int k = 0; k < tape.tokens && takes(tape, Tape.OR); k++) {
                if (!takesAll(tape, rules, open)) {
                    return false;
                }
                rules.addStep(Rules.OR_STEP);
            }
            return true;
        }

        private boolean takesAll(Tape tape, Rules rules, int open) {
            if (!takesOne(tape, rules, open)) {
                return false;
            }
            for (int k = 0; k < tape.tokens && takes(tape, Tape.AND); k++) {
                if (!takesOne(tape, rules, open)) {
                    return false;
                }
                rules.addStep(Rules.AND_STEP);
            }
            return true;
        }

        private boolean takesOne(Tape tape, Rules rules, int open) {
            int inside = open;
            while (inside < MOST_OPEN && takes(tape, Tape.NOT)) {
                inside++;
            }
            boolean isTaken = inside < MOST_OPEN && takes(tape, '(')
                    ? takesAny(tape, rules, inside + 1) && takes(tape, ')')
                    : takesComparison(tape, rules);
            if (isTaken && (inside - open) % 2 == 1) {
                rules.addStep(Rules.NOT_STEP);
            }
            return isTaken;
        }

        private boolean takesComparison(Tape tape, Rules rules) {
            int word = tape.codeAt(at) - Tape.ASKED_WORD;
            boolean isKnown = ofScale
                    ? word == RIG_WORD || word == DEPTH_WORD || word == YEAR_WORD
                    : word == NUMBER_WORD || word == RIG_WORD || word == YEAR_WORD || word == SPARS_WORD;
            if (!isKnown) {
                return false;
            }
            at++;
            int sign = tape.codeAt(at);
            if (!takes(tape, '<') && !takes(tape, '>') && !takes(tape, '=')) {
                return false;
            }
            int value = tape.widthAt(at) > MOST_DIGITS ? NONE : numberUpTo(tape, Rules.VALUES - 1);
            if (value == NONE) {
                return false;
            }
            rules.addStep(Rules.comparison(word, sign, value));
            return true;
        }

        private boolean takes(Tape tape, int code) {
            boolean is = at < tape.tokens && tape.code[at] == code;
            at += is ? 1 : 0;
            return is;
        }

        private int numberUpTo(Tape tape, int most) {
            if (at >= tape.tokens || tape.code[at] != Tape.DIGITS || tape.value[at] > most) {
                return NONE;
            }
            at++;
            return tape.value[at - 1];
        }
    }

    /** What a WIND is READ as; NONE as a scale is the bare one. */
    private static final class Scales {
        final Rules[] rules = new Rules[SCALES];
        final int[] since = new int[SCALES];
        final int[] words = new int[WORDS];
        final int[] from = new int[WINDS];
        final int[] into = new int[WINDS];
        final int[] given = new int[HIGHEST_NUMBER + 1];
        /** What turnInto() found: the least, the greatest, the one of the most, how many don't. */
        final int[] turned = new int[4];
        int told = 0;

        int add(Rules itsRules, int year) {
            if (told >= SCALES) {
                return NONE;
            }
            rules[told] = itsRules;
            since[told] = year;
            told++;
            return told - 1;
        }

        int ofYear(int year) {
            int latest = NONE;
            for (int k = 0; k < told; k++) {
                if (since[k] <= year && (latest == NONE || since[k] >= since[latest])) {
                    latest = k;
                }
            }
            return latest;
        }

        private Rules rulesOf(int scale) {
            return within(scale, told - 1) ? rules[scale] : null;
        }

        private void ask(int mix, int year) {
            words[RIG_WORD] = mix / 10;
            words[DEPTH_WORD] = mix % 10;
            words[YEAR_WORD] = year;
        }

        int numberFor(int scale, int kind, int wind, int mix, int year) {
            Rules its = rulesOf(scale);
            if (its == null) {
                return Math.min(HIGHEST_NUMBER, wind / 8);
            }
            ask(mix, year);
            return its.greatest(kind, wind, words);
        }

        void fillRow(int[] row, int scale, int kind, int mix, int year) {
            Rules its = rulesOf(scale);
            if (its == null) {
                for (int w = 0; w < row.length; w++) {
                    row[w] = Math.min(HIGHEST_NUMBER, w / 8);
                }
                return;
            }
            ask(mix, year);
            its.fillRow(row, kind, words);
        }

        /** Turns a NUMBER of a year's scale into another scale, in which a year is asked for; false: no WIND READS so. */
        boolean turnInto(int scale, int askedYear, int kind, int year, int number) {
            fillRow(from, ofYear(year), kind, 0, year);
            fillRow(into, scale, kind, 0, askedYear);
            for (int k = 0; k < given.length; k++) {
                given[k] = 0;
            }
            int all = 0;
            for (int w = 0; w < WINDS; w++) {
                if (from[w] == number && within(into[w], HIGHEST_NUMBER)) {
                    given[into[w]]++;
                    all++;
                }
            }
            if (all == 0) {
                return false;
            }
            tellTurned(all);
            return true;
        }

        private void tellTurned(int all) {
            int least = NONE;
            int greatest = NONE;
            int ofMost = 0;
            for (int k = 0; k < given.length; k++) {
                if (given[k] > 0) {
                    least = least == NONE ? k : least;
                    greatest = k;
                }
                ofMost = given[k] > given[ofMost] ? k : ofMost;
            }
            turned[0] = least;
            turned[1] = greatest;
            turned[2] = ofMost;
            turned[3] = all - given[ofMost];
        }
    }

    private static final class Ship {
        final int place;
        final int rig;
        final int[] officers = new int[LAST_WATCH + 1];
        final Reading[] readings = new Reading[LAST_WATCH + 1];
        int signedFrom = -1;

        Ship(int itsPlace, int itsRig, int officer) {
            place = itsPlace;
            rig = itsRig;
            signFrom(0, officer);
        }

        void signFrom(int watch, int officer) {
            for (int w = Math.max(0, watch); w <= LAST_WATCH; w++) {
                officers[w] = officer;
            }
            signedFrom = watch;
        }

        int officerOn(int watch) {
            return within(watch, LAST_WATCH) ? officers[watch] : NONE;
        }

        Reading readingOn(int watch) {
            return within(watch, LAST_WATCH) ? readings[watch] : null;
        }

        void put(int watch, Reading reading) {
            if (within(watch, LAST_WATCH)) {
                readings[watch] = reading;
            }
        }
    }

    private static final class Reading {
        final Ship ship;
        final int watch;
        final int cell;
        final int kind;
        final int number;
        final int depth;
        final int spars;
        int place = NONE;

        Reading(Ship itsShip, int itsWatch, int spot, int itsKind, int itsNumber) {
            ship = itsShip;
            watch = itsWatch;
            cell = spot / 100;
            depth = spot / 10 % 10;
            spars = spot % 10;
            kind = itsKind;
            number = itsNumber;
        }

        boolean isMans() {
            return kind != CUP;
        }

        int writer() {
            return ship.officerOn(watch);
        }

        int year() {
            return watch / 100;
        }

        int mix() {
            return 10 * ship.rig + depth;
        }
    }

    /** Who and what there is, and who stands in sight of whom. */
    private static final class Fleet {
        private final Ship[] shipRow = new Ship[SHIPS];
        private final Reading[] readingRow = new Reading[READINGS];
        int officers = 0;
        int distrusted = 0;
        int ships = 0;
        int readings = 0;
        int signed = 0;
        int sight = 1;
        int error = 1;

        boolean hasOfficer(int officer) {
            return within(officer, officers - 1);
        }

        boolean isTrusted(int officer) {
            return hasOfficer(officer) && (distrusted >> officer & 1) == 0;
        }

        void setTrusted(int officer, boolean is) {
            distrusted = is ? distrusted & ~(1 << officer) : distrusted | 1 << officer;
        }

        int launch(int rig, int officer) {
            if (ships >= SHIPS) {
                return NONE;
            }
            shipRow[ships] = new Ship(ships, rig, officer);
            ships++;
            return ships - 1;
        }

        int add(Reading reading) {
            if (readings >= READINGS) {
                return NONE;
            }
            reading.place = readings;
            readingRow[readings] = reading;
            reading.ship.put(reading.watch, reading);
            readings++;
            return readings - 1;
        }

        void forgetFrom(int first) {
            for (int k = Math.max(0, first); k < readings; k++) {
                Reading gone = readingRow[k];
                if (gone != null) {
                    gone.ship.put(gone.watch, null);
                }
                readingRow[k] = null;
            }
            readings = Math.min(readings, first);
        }

        Ship shipAt(int k) {
            return within(k, ships - 1) ? shipRow[k] : null;
        }

        Reading readingAt(int k) {
            return within(k, readings - 1) ? readingRow[k] : null;
        }

        /** A reading that isn't a cup, or null. */
        Reading mansAt(int k) {
            Reading r = readingAt(k);
            return r != null && r.isMans() ? r : null;
        }

        Reading trustedMansAt(int k) {
            Reading r = mansAt(k);
            return r != null && isTrusted(r.writer()) ? r : null;
        }

        /** The reading that another ship has in sight of this one, or null. */
        private Reading beside(Reading r, int ship) {
            Ship other = shipAt(ship);
            if (r == null || other == null || r.ship.place == ship) {
                return null;
            }
            Reading its = other.readingOn(r.watch);
            return its != null && far(r.cell, its.cell) <= sight ? its : null;
        }

        Reading mansBeside(Reading r, int ship) {
            Reading its = beside(r, ship);
            return its != null && its.isMans() ? its : null;
        }

        Reading cupBeside(Reading r, int ship) {
            Reading its = beside(r, ship);
            return its != null && !its.isMans() ? its : null;
        }
    }

    /** What the readings tell of the LEANS: how much each is above each other one at most. */
    private static final class Leans {
        private static final int NODES = OFFICERS + 1;
        /** The node of a lean of none: what cups tell is told against it. */
        private static final int GLASS = OFFICERS;
        private static final int UNBOUND = 1000000;
        private static final int NO_LEAST = -1000;
        private static final int NO_GREATEST = 1000;

        private final int[] most = new int[NODES * NODES];

        /** Takes in all that is told; false if nothing agrees with it. */
        boolean solve(Fleet fleet, Scales scales) {
            for (int k = 0; k < most.length; k++) {
                most[k] = UNBOUND;
            }
            for (int k = 0; k < NODES; k++) {
                most[k * NODES + k] = 0;
            }
            for (int k = 0; k < fleet.readings; k++) {
                Reading r = fleet.trustedMansAt(k);
                for (int s = 0; s < fleet.ships && r != null; s++) {
                    hear(r, fleet.mansBeside(r, s), fleet);
                    hearCup(r, fleet.cupBeside(r, s), fleet, scales);
                }
            }
            return closes();
        }

        private void hear(Reading r, Reading other, Fleet fleet) {
            if (other != null && fleet.isTrusted(other.writer()) && other.writer() != r.writer()) {
                hold(r.writer(), other.writer(), r.number - other.number, fleet.error);
            }
        }

        private void hearCup(Reading r, Reading cup, Fleet fleet, Scales scales) {
            if (cup != null) {
                int seen = scales.numberFor(scales.ofYear(r.year()), r.kind, cup.number, r.mix(), r.year());
                hold(r.writer(), GLASS, r.number - seen, fleet.error);
            }
        }

        /** The one less the other is from the difference less the error to it and the error. */
        private void hold(int one, int other, int difference, int error) {
            if (within(one, GLASS) && within(other, GLASS)) {
                int there = one * NODES + other;
                int thence = other * NODES + one;
                most[there] = Math.min(most[there], difference + error);
                most[thence] = Math.min(most[thence], error - difference);
            }
        }

        private boolean closes() {
            for (int by = 0; by < NODES; by++) {
                for (int one = 0; one < NODES; one++) {
                    for (int other = 0; other < NODES; other++) {
                        join(one, by, other);
                    }
                }
                // what contradicts itself would sink further on each round
                for (int one = 0; one < NODES; one++) {
                    if (most[one * NODES + one] < 0) {
                        return false;
                    }
                }
            }
            return true;
        }

        private void join(int one, int by, int other) {
            int first = most[one * NODES + by];
            int second = most[by * NODES + other];
            if (first < UNBOUND && second < UNBOUND) {
                int there = one * NODES + other;
                most[there] = Math.min(most[there], first + second);
            }
        }

        int least(int officer) {
            int below = within(officer, OFFICERS - 1) ? most[GLASS * NODES + officer] : UNBOUND;
            return below < UNBOUND ? -below : NO_LEAST;
        }

        int greatest(int officer) {
            int above = within(officer, OFFICERS - 1) ? most[officer * NODES + GLASS] : UNBOUND;
            return above < UNBOUND ? above : NO_GREATEST;
        }

        boolean bindsBothSides(int officer) {
            return within(officer, OFFICERS - 1)
                    && most[GLASS * NODES + officer] < UNBOUND && most[officer * NODES + GLASS] < UNBOUND;
        }
    }

    /** What the wind of a year was, and whether it grew; the leans must be solved and tight. */
    private static final class Winds {
        private static final int MOST_RISING = YEARS * (YEARS - 1) / 2;

        private final int[] row = new int[WINDS];
        private final int[] value = new int[YEARS];
        private final int[] orders = new int[MOST_RISING + 1];
        int kept = 0;
        int leastSum = 0;
        int greatestSum = 0;
        int values = 0;

        void gather(int year, Fleet fleet, Scales scales, Leans leans) {
            kept = 0;
            leastSum = 0;
            greatestSum = 0;
            for (int k = 0; k < fleet.readings; k++) {
                Reading r = fleet.trustedMansAt(k);
                if (r != null && r.year() == year && leans.bindsBothSides(r.writer())) {
                    keep(r, scales, leans);
                }
            }
        }

        private void keep(Reading r, Scales scales, Leans leans) {
            int low = held(r.number - leans.greatest(r.writer()));
            int high = held(r.number - leans.least(r.writer()));
            scales.fillRow(row, scales.ofYear(r.year()), r.kind, r.mix(), r.year());
            int least = leastWind(row, low, high);
            if (least != NONE) {
                kept++;
                leastSum += least;
                greatestSum += greatestWind(row, low, high);
            }
        }

        void gatherValues(Fleet fleet, Scales scales, Leans leans) {
            values = 0;
            for (int year = 0; year < YEARS; year++) {
                gather(year, fleet, scales, leans);
                if (kept > 0 && values < YEARS) {
                    value[values] = (leastSum + greatestSum) * 1000 / (2 * kept);
                    values++;
                }
            }
        }

        int rising() {
            int couples = 0;
            for (int later = 0; later < values; later++) {
                for (int k = 0; k < later; k++) {
                    couples += value[later] > value[k] ? 1 : 0;
                }
            }
            return couples;
        }

        /** In how many orders of the years at least so many couples rise. */
        int ordersRising(int couples) {
            for (int k = 0; k < orders.length; k++) {
                orders[k] = k == 0 ? 1 : 0;
            }
            // a year put among those before rises with as many of them as one likes
            for (int year = 1; year < values; year++) {
                for (int k = orders.length - 1; k > 0; k--) {
                    for (int with = 1; with <= year && with <= k; with++) {
                        orders[k] += orders[k - with];
                    }
                }
            }
            int many = 0;
            for (int k = Math.max(0, couples); k < orders.length; k++) {
                many += orders[k];
            }
            return many;
        }
    }

    /** Where the storm can be: the cells of a watch are the bits of a long. */
    private static final class Storm {
        private static final long WEST_COLUMN = 0x0101010101010101L;
        private static final long EAST_COLUMN = 0x8080808080808080L;

        private final long[] cells = new long[LONGEST_STORM];
        private boolean isTold = false;
        private int first = 0;
        private int last = 0;
        private int reach = 0;
        private int least = 0;

        void tell(int from, int to, int radius, int line) {
            isTold = true;
            first = from;
            last = to;
            reach = radius;
            least = line;
        }

        boolean lasts(int watch) {
            return isTold && watch >= first && watch <= last;
        }

        long cellsOn(int watch) {
            return lasts(watch) && watch - first < LONGEST_STORM ? cells[watch - first] : 0L;
        }

        /** Leaves on each watch the cells that a way from the first to the last watch goes by. */
        void follow(Fleet fleet) {
            int watches = Math.min(LONGEST_STORM, last - first + 1);
            for (int k = 0; k < watches; k++) {
                cells[k] = allowed(first + k, fleet);
                if (k > 0) {
                    cells[k] &= spread(cells[k - 1]);
                }
            }
            for (int k = watches - 2; k >= 0; k--) {
                cells[k] &= spread(cells[k + 1]);
            }
        }

        private long allowed(int watch, Fleet fleet) {
            long middle = -1L;
            for (int k = 0; k < fleet.readings; k++) {
                Reading r = fleet.trustedMansAt(k);
                if (r != null && r.watch == watch) {
                    long near = around(r.cell);
                    middle &= r.number >= least ? near : ~near;
                }
            }
            return middle;
        }

        private long around(int cell) {
            long near = 1L << cell;
            for (int k = 0; k < reach; k++) {
                near = spread(near);
            }
            return near;
        }

        private static long spread(long from) {
            long row = from | (from << 1 & ~WEST_COLUMN) | (from >>> 1 & ~EAST_COLUMN);
            return row | row << 8 | row >>> 8;
        }
    }

    private static final class Image {
        final int readings;
        final int distrusted;
        final int sight;
        final int error;

        Image(Fleet fleet) {
            readings = fleet.readings;
            distrusted = fleet.distrusted;
            sight = fleet.sight;
            error = fleet.error;
        }
    }
}
