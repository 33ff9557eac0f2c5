import java.util.ArrayList;
import java.util.Arrays;
import java.util.List;

/** The document told again in the plainest form, by other ways than the class goes, for random runs to compare. */
final class Model {
    private static final class Sign {
        int ship, officer, watch;
    }

    private static final class Read {
        int ship, watch, cell, kind, number, depth, spars;
    }

    private static final class Text {
        int year;
        List<List<String>> statements = new ArrayList<>();
    }

    private static final class Snap {
        int readings, sight, error;
        boolean[] trusted;
    }

    int officers = 0;
    final boolean[] trusted = new boolean[16];
    final List<Integer> rigs = new ArrayList<>();
    final List<Sign> signs = new ArrayList<>();
    final List<Read> readings = new ArrayList<>();
    final List<Text> scales = new ArrayList<>();
    final Text[] habits = new Text[16];
    final List<Snap> images = new ArrayList<>();
    final int[] refused = new int[3];
    int signed = 0;
    int sight = 1;
    int error = 1;
    int faultPlace = -1;
    StringBuilder tape = new StringBuilder();
    int[] storm = null;

    private static boolean in(int x, int low, int high) {
        return low <= x && x <= high;
    }

    private int no(int reason, int answer) {
        refused[reason]++;
        return answer;
    }

    int officer() {
        if (officers == 16) return no(1, -1);
        trusted[officers] = true;
        return officers++;
    }

    int ship(int rig, int officer) {
        if (!in(rig, 0, 3) || !in(officer, 0, officers - 1)) return no(0, -1);
        if (rigs.size() == 12) return no(1, -1);
        rigs.add(rig);
        sign(rigs.size() - 1, officer, 0);
        return rigs.size() - 1;
    }

    private void sign(int ship, int officer, int watch) {
        Sign s = new Sign();
        s.ship = ship;
        s.officer = officer;
        s.watch = watch;
        signs.add(s);
    }

    int signs(int ship, int officer, int watch) {
        if (!in(ship, 0, rigs.size() - 1) || !in(officer, 0, officers - 1) || watch > 999) return no(0, -1);
        for (Sign s : signs) {
            if (s.ship == ship && s.watch >= watch) return no(0, -1);
        }
        if (signed == 60) return no(1, -1);
        sign(ship, officer, watch);
        return ++signed;
    }

    int officerOf(int ship, int watch) {
        int found = -1;
        for (Sign s : signs) {
            if (s.ship == ship && s.watch <= watch) found = s.officer;
        }
        return found;
    }

    int officerOf(Read r) {
        return officerOf(r.ship, r.watch);
    }

    boolean trust(int officer, boolean is) {
        if (!in(officer, 0, officers - 1)) return no(0, 0) == 1;
        trusted[officer] = is;
        return true;
    }

    boolean set(int newSight, int newError) {
        if (!in(newSight, 0, 7) || !in(newError, 0, 5)) return no(0, 0) == 1;
        sight = newSight;
        error = newError;
        return true;
    }

    int read(int ship, int watch, int spot, int kind, int number) {
        if (!in(ship, 0, rigs.size() - 1) || !in(watch, 0, 999) || !in(spot, 0, 6399) || !in(kind, 0, 3)) return no(0, -1);
        if (!in(number, 0, kind == 3 ? 99 : 12)) return no(0, -1);
        if (at(ship, watch) != null) return no(0, -1);
        if (readings.size() == 300) return no(1, -1);
        Read r = new Read();
        r.ship = ship;
        r.watch = watch;
        r.cell = spot / 100;
        r.depth = spot % 100 / 10;
        r.spars = spot % 10;
        r.kind = kind;
        r.number = number;
        readings.add(r);
        return readings.size() - 1;
    }

    private Read at(int ship, int watch) {
        for (Read r : readings) {
            if (r.ship == ship && r.watch == watch) return r;
        }
        return null;
    }

    /** The NUMBER of a MAN's reading, if there is one; else another one. */
    int numberOn(int ship, int watch, int other) {
        Read r = at(ship, watch);
        return r == null || r.kind == 3 ? other : r.number;
    }

    int feed(int... five) {
        if (tape.length() + 20 > 900) return -1;
        for (int number : five) {
            for (int shift = 24; shift >= 0; shift -= 8) tape.append((char) (number >> shift & 255));
        }
        return tape.length();
    }

    int scale(int n, int year) {
        if (!in(n, 0, tape.length()) || !in(year, 0, 9)) return no(0, -2);
        if (scales.size() == 8) return no(1, -3);
        Text text = parse(n, true);
        if (text == null) return no(2, -1);
        text.year = year;
        scales.add(text);
        return scales.size() - 1;
    }

    int habits(int officer, int n) {
        if (!in(officer, 0, officers - 1) || !in(n, 0, tape.length())) return no(0, -2);
        Text text = parse(n, false);
        if (text == null) return no(2, -1);
        habits[officer] = text;
        return text.statements.size();
    }

    /** Goes token by token through what may come next; the open "not" and "(" stand on a stack. */
    private Text parse(int n, boolean isScale) {
        String all = tape.substring(0, n);
        tape = new StringBuilder();
        Text text = new Text();
        List<String> statement = new ArrayList<>();
        StringBuilder open = new StringBuilder();
        String state = "start";
        int at = 0;
        while (true) {
            while (at < n && (all.charAt(at) == ' ' || all.charAt(at) == '\n')) at++;
            if (at == n) break;
            String token = tokenAt(all, at);
            if (state.equals("start") && text.statements.size() == 40) state = "full";
            String next = next(state, token, open, isScale, statement);
            if (next == null) {
                faultPlace = at;
                return null;
            }
            statement.add(token);
            if (next.equals("start")) {
                text.statements.add(statement);
                statement = new ArrayList<>();
            }
            state = next;
            at += token.length();
        }
        if (!state.equals("start")) {
            faultPlace = n;
            return null;
        }
        faultPlace = -1;
        return text;
    }

    private static String tokenAt(String all, int at) {
        int end = at + 1;
        char c = all.charAt(at);
        if (c >= 'a' && c <= 'z') {
            while (end < all.length() && all.charAt(end) >= 'a' && all.charAt(end) <= 'z') end++;
        } else if (c >= '0' && c <= '9') {
            while (end < all.length() && all.charAt(end) >= '0' && all.charAt(end) <= '9') end++;
        }
        return all.substring(at, end);
    }

    private static boolean isNumber(String token, int most) {
        if (!token.matches("[0-9]+")) return false;
        return new java.math.BigInteger(token).compareTo(java.math.BigInteger.valueOf(most)) <= 0;
    }

    private static String next(String state, String token, StringBuilder open, boolean isScale, List<String> statement) {
        String key = state + " " + token;
        switch (state) {
            case "start":
                if (isScale && token.matches("canvas|sea|leaf")) return "sort";
                if (!isScale && token.equals("lean")) return "lean";
                if (!isScale && token.equals("write")) return "write";
                return null;
            case "sort": return isNumber(token, 12) ? "number" : null;
            case "number": return token.equals("from") ? "from" : null;
            case "from": return isNumber(token, 99) ? "head" : null;
            case "lean": return token.matches("up|down") ? "upOrDown" : null;
            case "upOrDown": return isNumber(token, 12) ? "head" : null;
            case "write": return isNumber(token, 12) ? "what" : null;
            case "what": return token.equals("for") ? "for" : null;
            case "for": return isNumber(token, 12) ? "told" : null;
            case "told": return token.equals(";") ? "start" : null;
            case "head": return key.equals("head ;") ? "start" : key.equals("head if") ? "one" : null;
            case "one":
                if (token.equals("not") || token.equals("(")) {
                    if (open.length() == 9) return null;
                    open.append(token.charAt(0));
                    return "one";
                }
                return token.matches(isScale ? "rig|depth|year" : "number|rig|year|spars") ? "word" : null;
            case "word": return token.matches("[<>=]") ? "sign" : null;
            case "sign":
                if (!token.matches("[0-9]{1,4}")) return null;
                closeNots(open);
                return "told one";
            case "told one":
                if (token.equals("and") || token.equals("or")) return "one";
                if (token.equals(")") && open.length() > 0) {
                    open.setLength(open.length() - 1);
                    closeNots(open);
                    return "told one";
                }
                return token.equals(";") && open.length() == 0 ? "start" : null;
            default: return null;
        }
    }

    private static void closeNots(StringBuilder open) {
        while (open.length() > 0 && open.charAt(open.length() - 1) == 'n') open.setLength(open.length() - 1);
    }

    /** Whether what a statement asks holds: the last "or" outside of "(" first, then the last "and". */
    private static boolean holds(List<String> statement, int rig, int depth, int year, int number, int spars) {
        int from = statement.indexOf("if");
        if (from < 0) return true;
        int[] words = {rig, depth, year, number, spars};
        return any(statement.subList(from + 1, statement.size() - 1), words);
    }

    private static boolean any(List<String> tokens, int[] words) {
        int depth = 0;
        for (String joint : new String[] {"or", "and"}) {
            for (int k = tokens.size() - 1; k >= 0; k--) {
                if (tokens.get(k).equals(")")) depth++;
                if (tokens.get(k).equals("(")) depth--;
                if (depth == 0 && tokens.get(k).equals(joint)) {
                    boolean left = any(tokens.subList(0, k), words);
                    boolean right = any(tokens.subList(k + 1, tokens.size()), words);
                    return joint.equals("or") ? left || right : left && right;
                }
            }
        }
        if (tokens.get(0).equals("not")) return !any(tokens.subList(1, tokens.size()), words);
        if (tokens.get(0).equals("(")) return any(tokens.subList(1, tokens.size() - 1), words);
        int is = words[Arrays.asList("rig", "depth", "year", "number", "spars").indexOf(tokens.get(0))];
        int value = Integer.parseInt(tokens.get(2));
        return tokens.get(1).equals("<") ? is < value : tokens.get(1).equals(">") ? is > value : is == value;
    }

    private static int number(String digits) {
        return new java.math.BigInteger(digits).intValue();
    }

    private Text scaleOf(int year) {
        Text found = null;
        for (int y = 0; y <= year; y++) {
            for (Text t : scales) {
                if (t.year == y) found = t;
            }
        }
        return found;
    }

    private static int byScale(Text scale, int kind, int wind, int rig, int depth, int year) {
        if (scale == null) return Math.min(12, wind / 8);
        String sort = new String[] {"canvas", "sea", "leaf"}[kind];
        int best = 0;
        for (List<String> s : scale.statements) {
            if (s.get(0).equals(sort) && number(s.get(3)) <= wind && holds(s, rig, depth, year, 0, 0)) {
                best = Math.max(best, number(s.get(1)));
            }
        }
        return best;
    }

    private int says(int kind, int wind, int rig, int depth, int year) {
        return byScale(scaleOf(year), kind, wind, rig, depth, year);
    }

    private int writes(int officer, int number, int rig, int year) {
        if (habits[officer] == null) return number;
        int now = number;
        for (List<String> s : habits[officer].statements) {
            if (s.get(0).equals("lean") && holds(s, rig, 0, year, number, 0)) {
                int by = number(s.get(2));
                now = Math.max(0, Math.min(12, s.get(1).equals("up") ? number + by : number - by));
                break;
            }
        }
        for (List<String> s : habits[officer].statements) {
            if (s.get(0).equals("write") && number(s.get(3)) == now) return number(s.get(1));
        }
        return now;
    }

    int fault() {
        return faultPlace;
    }

    int reading(int k, int what) {
        if (!in(k, 0, readings.size() - 1) || !in(what, 0, 8)) return -1;
        Read r = readings.get(k);
        return new int[] {r.ship, r.watch, r.cell, r.kind, r.number, r.depth, r.spars, officerOf(r), isCopied(r) ? 1 : 0}[what];
    }

    int reads(int year, int kind, int wind, int mix) {
        if (!in(year, 0, 9) || !in(kind, 0, 2) || !in(wind, 0, 99) || !in(mix, 0, 39)) return -1;
        return says(kind, wind, mix / 10, mix % 10, year);
    }

    int blow(int ship, int watch, int kind, int wind, int depth) {
        if (!in(ship, 0, rigs.size() - 1) || !in(watch, 0, 999) || !in(kind, 0, 2) || !in(wind, 0, 99) || !in(depth, 0, 9)) return -1;
        int rig = rigs.get(ship);
        return writes(officerOf(ship, watch), says(kind, wind, rig, depth, watch / 100), rig, watch / 100);
    }

    int run(int ship, int watch, int seed, int n, int number) {
        if (!in(ship, 0, rigs.size() - 1) || !in(watch, 0, 999) || !in(seed, 0, 999999999) || !in(n, 1, 1000) || !in(number, 0, 12)) return -1;
        int[] tally = new int[100];
        java.math.BigInteger z = java.math.BigInteger.valueOf(seed);
        java.math.BigInteger room = java.math.BigInteger.ONE.shiftLeft(64);
        for (int k = 0; k < n; k++) {
            z = z.multiply(new java.math.BigInteger("6364136223846793005")).add(new java.math.BigInteger("1442695040888963407")).mod(room);
            tally[z.shiftRight(33).mod(java.math.BigInteger.valueOf(100)).intValue()]++;
        }
        int often = 0;
        for (int w = 0; w < 100; w++) {
            if (tally[w] > 0 && blow(ship, watch, 0, w, 0) == number) often += tally[w];
        }
        return often;
    }

    int column(int year, int kind, int mix, int number, int what) {
        if (!in(year, 0, 9) || !in(kind, 0, 2) || !in(mix, 0, 39) || !in(number, 0, 12) || !in(what, 0, 1)) return -1;
        int found = -1;
        for (int w = 0; w < 100; w++) {
            if (reads(year, kind, w, mix) == number && (what == 1 || found < 0)) found = w;
        }
        return found;
    }

    private int[] turned(int kind, int year, int number, Text into, int intoYear) {
        int[] tally = new int[13];
        int all = 0;
        for (int w = 0; w < 100; w++) {
            if (says(kind, w, 0, 0, year) == number) {
                tally[byScale(into, kind, w, 0, 0, intoYear)]++;
                all++;
            }
        }
        if (all == 0) return null;
        int least = 0;
        while (tally[least] == 0) least++;
        int greatest = 12;
        while (tally[greatest] == 0) greatest--;
        int most = 0;
        for (int k = 12; k >= 0; k--) {
            if (tally[k] >= tally[most]) most = k;
        }
        return new int[] {least, greatest, most, all - tally[most]};
    }

    int turn(int kind, int year, int number, int other, int what) {
        if (!in(kind, 0, 2) || !in(year, 0, 9) || !in(number, 0, 12) || !in(other, 0, 9) || !in(what, 0, 3)) return -1;
        int[] found = turned(kind, year, number, scaleOf(other), other);
        return found == null ? -1 : found[what];
    }

    private boolean sees(Read a, Read b) {
        return a.ship != b.ship && a.watch == b.watch && far(a.cell, b.cell) <= sight;
    }

    private static int far(int a, int b) {
        int x = a % 8 - b % 8;
        int y = a / 8 - b / 8;
        return Math.max(Math.max(x, -x), Math.max(y, -y));
    }

    /** Spans by going over all that is told until nothing changes; null if nothing agrees. Node 16 is the glass. */
    private int[][] spans() {
        List<int[]> edges = new ArrayList<>();
        for (Read a : readings) {
            for (Read b : readings) {
                if (a.kind == 3 || !trusted[officerOf(a)] || !sees(a, b)) continue;
                int one = officerOf(a);
                int other = b.kind == 3 ? 16 : officerOf(b);
                if (b.kind != 3 && (!trusted[other] || one == other)) continue;
                int year = a.watch / 100;
                int d = a.number - (b.kind == 3 ? says(a.kind, b.number, rigs.get(a.ship), a.depth, year) : b.number);
                edges.add(new int[] {other, one, d + error});
                edges.add(new int[] {one, other, error - d});
            }
        }
        int[][] away = new int[17][17];
        for (int s = 0; s < 17; s++) {
            Arrays.fill(away[s], 99999);
            away[s][s] = 0;
            for (int round = 0; round < 18; round++) {
                boolean changed = false;
                for (int[] e : edges) {
                    if (away[s][e[0]] != 99999 && away[s][e[0]] + e[2] < away[s][e[1]]) {
                        away[s][e[1]] = away[s][e[0]] + e[2];
                        changed = true;
                    }
                }
                if (changed && round == 17) return null;
            }
        }
        int[][] span = new int[16][2];
        for (int k = 0; k < 16; k++) {
            span[k][1] = away[16][k] == 99999 ? 1000 : away[16][k];
            span[k][0] = away[k][16] == 99999 ? -1000 : -away[k][16];
        }
        return span;
    }

    int tight() {
        return spans() == null ? 0 : 1;
    }

    int lean(int officer, int what) {
        int[][] span = spans();
        if (!in(officer, 0, officers - 1) || !in(what, 0, 1) || span == null) return -2000;
        return span[officer][what];
    }

    int liked(int officer, int number, int what) {
        if (!in(officer, 0, officers - 1) || !in(number, 1, 11) || !in(what, 0, 3)) return -200;
        int[] tally = new int[13];
        int all = 0;
        for (Read r : readings) {
            if (r.kind != 3 && officerOf(r) == officer) {
                tally[r.number]++;
                all++;
            }
        }
        int twice = tally[number - 1] + tally[number + 1];
        if (what == 0) return tally[number];
        if (what == 1) return twice;
        if (what == 2) return 4 * tally[number] < twice ? -1 : tally[number] > twice ? 1 : 0;
        if (tally[number] > 0 || all == 0) return -1;
        long odds = 1000000000;
        for (int k = 0; k < all; k++) odds = odds * (2L * all - twice) / (2L * all);
        return (int) odds;
    }

    private int[] windOf(int year, int[][] span) {
        int many = 0;
        int leasts = 0;
        int greatests = 0;
        for (Read r : readings) {
            int officer = officerOf(r);
            if (r.kind == 3 || r.watch / 100 != year || !trusted[officer]) continue;
            if (span[officer][0] == -1000 || span[officer][1] == 1000) continue;
            int low = Math.min(12, Math.max(0, r.number - span[officer][1]));
            int high = Math.min(12, Math.max(0, r.number - span[officer][0]));
            int least = 1000;
            int greatest = -1;
            for (int number = low; number <= high; number++) {
                int mix = 10 * rigs.get(r.ship) + r.depth;
                int one = column(year, r.kind, mix, number, 0);
                if (one >= 0) {
                    least = Math.min(least, one);
                    greatest = Math.max(greatest, column(year, r.kind, mix, number, 1));
                }
            }
            if (greatest >= 0) {
                many++;
                leasts += least;
                greatests += greatest;
            }
        }
        return new int[] {many, leasts, greatests};
    }

    int wind(int year, int what) {
        int[][] span = spans();
        if (span == null || !in(year, 0, 9) || !in(what, 0, 2)) return -1;
        int[] of = windOf(year, span);
        return what == 0 ? of[0] : of[0] == 0 ? -1 : of[what] / of[0];
    }

    int grew(int what) {
        int[][] span = spans();
        if (span == null || !in(what, 0, 3)) return -1;
        List<Integer> values = new ArrayList<>();
        for (int year = 0; year < 10; year++) {
            int[] of = windOf(year, span);
            if (of[0] > 0) values.add((of[1] + of[2]) * 1000 / (2 * of[0]));
        }
        int n = values.size();
        int rising = rising(values);
        if (what == 0) return rising;
        if (what == 3) return n;
        return orders(new ArrayList<>(), n, what == 1 ? rising : 0);
    }

    private static int rising(List<Integer> values) {
        int rising = 0;
        for (int b = 0; b < values.size(); b++) {
            for (int a = 0; a < b; a++) {
                if (values.get(a) < values.get(b)) rising++;
            }
        }
        return rising;
    }

    private static int orders(List<Integer> begun, int n, int atLeast) {
        if (begun.size() == n) return rising(begun) >= atLeast ? 1 : 0;
        int found = 0;
        for (int k = 0; k < n; k++) {
            if (!begun.contains(k)) {
                begun.add(k);
                found += orders(begun, n, atLeast);
                begun.remove(begun.size() - 1);
            }
        }
        return found;
    }

    int late(int what) {
        int[] sum = new int[10];
        int[] couples = new int[10];
        for (Read sea : readings) {
            if (sea.kind != 1 || !trusted[officerOf(sea)]) continue;
            for (Read cup : readings) {
                int lag = sea.watch - cup.watch;
                if (cup.kind == 3 && cup.cell == sea.cell && in(lag, 0, 9)) {
                    int seen = says(1, cup.number, rigs.get(sea.ship), sea.depth, sea.watch / 100);
                    sum[lag] += Math.abs(sea.number - seen);
                    couples[lag]++;
                }
            }
        }
        if (in(what, 10, 19)) return sum[what - 10];
        if (in(what, 20, 29)) return couples[what - 20];
        int best = -1;
        for (int lag = 9; lag >= 0; lag--) {
            if (couples[lag] > 0 && (best < 0 || (long) sum[lag] * couples[best] <= (long) sum[best] * couples[lag])) best = lag;
        }
        if (best < 0 || !in(what, 0, 2)) return -1;
        return new int[] {best, sum[best], couples[best]}[what];
    }

    private int steps(Read r) {
        Read last = at(r.ship, r.watch - 1);
        if (r.kind == 3 || last == null || last.kind == 3 || officerOf(r) != officerOf(last)) return 0;
        if (r.number != last.number) return 1;
        for (int ship = 0; ship < rigs.size(); ship++) {
            Read before = at(ship, r.watch - 1);
            Read now = at(ship, r.watch);
            if (before != null && now != null && before.kind != 3 && now.kind != 3 && sees(before, last) && sees(now, r)
                    && (before.number - now.number >= 2 || now.number - before.number >= 2)) {
                return 3;
            }
        }
        return 2;
    }

    private boolean isCopied(Read r) {
        return steps(r) == 3;
    }

    int copied(int ship, int what) {
        if (!in(ship, 0, rigs.size() - 1) || !in(what, 0, 2)) return -1;
        int found = 0;
        for (Read r : readings) {
            if (r.ship == ship && steps(r) > what) found++;
        }
        return found;
    }

    int find(int k) {
        List<Integer> all = new ArrayList<>();
        for (int i = 0; i < readings.size(); i++) {
            if (isCopied(readings.get(i))) all.add(i);
        }
        return in(k, 0, all.size() - 1) ? all.get(k) : -1;
    }

    int wished(int officer, int what) {
        if (!in(officer, 0, officers - 1) || !in(what, 0, 3)) return -1000000;
        List<Integer> above = new ArrayList<>();
        List<Boolean> lost = new ArrayList<>();
        for (Read r : readings) {
            if (r.kind == 3 || officerOf(r) != officer || above.size() == 12) continue;
            for (Read other : readings) {
                if (other.kind != 3 && sees(r, other)) {
                    above.add(r.number - other.number);
                    lost.add(r.spars > 0);
                    break;
                }
            }
        }
        int lead = lead(above, lost);
        if (what == 2) return lead;
        if (what == 3) return above.size();
        int many = 0;
        for (boolean is : lost) many += is ? 1 : 0;
        return ways(above, new ArrayList<>(), many, what == 0 ? lead : -99999);
    }

    private static int lead(List<Integer> above, List<Boolean> ones) {
        int sumOnes = 0;
        int sumOthers = 0;
        int many = 0;
        for (int k = 0; k < above.size(); k++) {
            if (ones.get(k)) {
                sumOnes += above.get(k);
                many++;
            } else {
                sumOthers += above.get(k);
            }
        }
        return sumOnes * (above.size() - many) - sumOthers * many;
    }

    private static int ways(List<Integer> above, List<Boolean> begun, int left, int atLeast) {
        if (begun.size() == above.size()) return left == 0 && lead(above, begun) >= atLeast ? 1 : 0;
        int found = 0;
        for (int take = 0; take <= 1; take++) {
            begun.add(take == 1);
            found += ways(above, begun, left - take, atLeast);
            begun.remove(begun.size() - 1);
        }
        return found;
    }

    int eight(int line, int wind, int coin, int what) {
        if (!in(line, 0, 12) || !in(wind, 0, 99) || !in(coin, 0, 9999) || !in(what, 0, 3)) return -1000000000;
        int[] found = new int[4];
        for (Read r : readings) {
            for (Read cup : readings) {
                if (r.kind != 3 && cup.kind == 3 && sees(r, cup)) {
                    found[0]++;
                    if (r.number >= line) found[1]++;
                    if (cup.number >= wind) found[2]++;
                }
            }
        }
        found[3] = coin * (found[1] - found[2]);
        return found[what];
    }

    private int unlike(Text scale) {
        int sum = 0;
        for (int i = 0; i < readings.size(); i++) {
            for (int j = 0; j < i; j++) {
                Read a = readings.get(i);
                Read b = readings.get(j);
                if (a.kind == 3 || b.kind == 3 || !sees(a, b)) continue;
                int[] one = turned(a.kind, a.watch / 100, a.number, scale, a.watch / 100);
                int[] other = turned(b.kind, b.watch / 100, b.number, scale, b.watch / 100);
                if (one != null && other != null) sum += Math.abs(one[2] - other[2]);
            }
        }
        return sum;
    }

    int alike(int scale) {
        if (!in(scale, -1, scales.size() - 1)) return -1;
        if (scale >= 0) return unlike(scales.get(scale));
        int best = -1;
        int least = Integer.MAX_VALUE;
        for (int k = 0; k < scales.size(); k++) {
            int sum = unlike(scales.get(k));
            if (sum < least) {
                best = k;
                least = sum;
            }
        }
        return best;
    }

    int storm(int from, int to, int radius, int line) {
        if (!in(from, 0, 999) || !in(to, from, 999) || to - from > 59 || !in(radius, 0, 7) || !in(line, 0, 12)) return -1;
        storm = new int[] {from, to, radius, line};
        return way(from, -1) > 0 ? 1 : 0;
    }

    private boolean canStand(int watch, int cell) {
        for (Read r : readings) {
            if (r.kind != 3 && r.watch == watch && trusted[officerOf(r)]
                    && (r.number >= storm[3]) != (far(r.cell, cell) <= storm[2])) {
                return false;
            }
        }
        return true;
    }

    /** Which cells can be come to from one watch on, going by ones to another. */
    private boolean[] reached(int from, int to) {
        boolean[] is = new boolean[64];
        for (int c = 0; c < 64; c++) is[c] = canStand(from, c);
        int by = to < from ? -1 : 1;
        for (int w = from; w != to; w += by) {
            boolean[] next = new boolean[64];
            for (int c = 0; c < 64; c++) {
                for (int d = 0; d < 64; d++) next[c] |= is[d] && far(c, d) <= 1;
                next[c] = next[c] && canStand(w + by, c);
            }
            is = next;
        }
        return is;
    }

    int way(int watch, int cell) {
        if (storm == null || !in(watch, storm[0], storm[1]) || !in(cell, -1, 63)) return -1;
        boolean[] before = reached(storm[0], watch);
        boolean[] after = reached(storm[1], watch);
        int found = 0;
        for (int c = 0; c < 64; c++) {
            if (before[c] && after[c] && (cell == -1 || cell == c)) found++;
        }
        return found;
    }

    int image() {
        if (images.size() == 4) return no(1, -1);
        Snap snap = new Snap();
        snap.readings = readings.size();
        snap.sight = sight;
        snap.error = error;
        snap.trusted = Arrays.copyOf(trusted, officers);
        images.add(snap);
        return images.size() - 1;
    }

    int back(int image) {
        if (!in(image, 0, images.size() - 1) || images.get(image).readings > readings.size()) return no(0, -1);
        Snap snap = images.get(image);
        int gone = readings.size() - snap.readings;
        while (readings.size() > snap.readings) readings.remove(readings.size() - 1);
        for (int k = 0; k < officers; k++) trusted[k] = k >= snap.trusted.length || snap.trusted[k];
        sight = snap.sight;
        error = snap.error;
        return gone;
    }

    int count(int what) {
        if (!in(what, 0, 13)) return -1;
        int good = 0;
        for (int k = 0; k < officers; k++) good += trusted[k] ? 1 : 0;
        int statements = 0;
        for (Text t : habits) statements += t == null ? 0 : t.statements.size();
        return new int[] {officers, rigs.size(), readings.size(), scales.size(), sight, error, signed, good,
            refused[0], refused[1], refused[2], images.size(), tape.length(), statements}[what];
    }
}
