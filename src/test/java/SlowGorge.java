import java.math.BigInteger;
import java.util.ArrayList;
import java.util.List;

/**
 * The document once more, word by word and slowly: every day is remembered, nothing is cut short.
 * It shares no thought with the class: snow is looked for between two days, shows are tried one by one,
 * fogs and turns are followed to their ends.
 */
final class SlowGorge {
    static final int NONE = -6, UNKNOWN = -1, OUTSIDE = -2, STATE = -3, FULL = -4, NO = -5;

    /** One day: what was shown, what was seen when it ended, fog and snow. */
    static final class Day {
        int[] shown = new int[3];
        int[] seen = new int[3];
        boolean fog;
        boolean snow;

        Day copy() {
            Day d = new Day();
            d.shown = shown.clone();
            d.seen = seen.clone();
            d.fog = fog;
            d.snow = snow;
            return d;
        }
    }

    int[] off = {1, 2, 3, 4};
    int[] keeps = new int[4];
    int[][] dress = new int[6][3];
    int limit = 500;
    List<Day> days = new ArrayList<>();
    int worn = 0;
    List<int[]> sights = new ArrayList<>();
    String pad = "";
    SlowGorge[] images = new SlowGorge[2];

    SlowGorge() {
        days.add(new Day());
    }

    SlowGorge copy() {
        SlowGorge g = new SlowGorge();
        g.off = off.clone();
        g.keeps = keeps.clone();
        for (int i = 0; i < 6; i++) {
            g.dress[i] = dress[i].clone();
        }
        g.limit = limit;
        g.days = new ArrayList<>();
        for (Day d : days) {
            g.days.add(d.copy());
        }
        g.worn = worn;
        g.sights = new ArrayList<>(sights);
        g.pad = pad;
        return g;
    }

    Day today() {
        return days.get(days.size() - 1);
    }

    int number() {
        return days.size() - 1;
    }

    int seenToday(int colour) {
        int now = number();
        int sum = today().shown[colour];
        for (int w = 0; w < 4; w++) {
            int from = now - off[w];
            boolean comes = from >= 0 && !today().fog;
            for (int between = Math.max(0, from + 1); between <= now; between++) {
                comes = comes && !days.get(between).snow;
            }
            if (comes) {
                sum += keeps[w] * days.get(from).seen[colour] / 10;
            }
        }
        return Math.min(999, sum);
    }

    void next() {
        for (int c = 0; c < 3; c++) {
            today().seen[c] = seenToday(c);
        }
        days.add(new Day());
        worn = 0;
    }

    boolean over() {
        return seenToday(0) > limit || seenToday(1) > limit || seenToday(2) > limit;
    }

    SlowGorge later(int d) {
        SlowGorge g = copy();
        for (int i = 0; i < d; i++) {
            g.next();
        }
        return g;
    }

    static SlowGorge empty(SlowGorge like) {
        SlowGorge g = new SlowGorge();
        g.off = like.off.clone();
        g.keeps = like.keeps.clone();
        return g;
    }

    int fault() {
        if (pad.matches("([ryb][1-9]|[A-F]|f|s|w[0-3]|\\.)*")) {
            return NONE;
        }
        for (int n = 1; n <= pad.length(); n++) {
            if (!pad.substring(0, n).matches("([ryb][1-9]|[A-F]|f|s|w[0-3]|\\.)*([rybw]?)")) {
                return n - 1;
            }
        }
        return pad.length();
    }

    /** The acts of a pad without a fault. */
    List<String> acts() {
        List<String> all = new ArrayList<>();
        for (int i = 0; i < pad.length(); i++) {
            if ("rybw".indexOf(pad.charAt(i)) >= 0) {
                all.add(pad.substring(i, i + 2));
                i++;
            } else {
                all.add(pad.substring(i, i + 1));
            }
        }
        return all;
    }

    int[] adds(String act) {
        int[] more = new int[3];
        int colour = "ryb".indexOf(act.charAt(0));
        if (colour >= 0) {
            more[colour] = 10 * (act.charAt(1) - '0');
        } else if (act.charAt(0) >= 'A' && act.charAt(0) <= 'F') {
            more = dress[act.charAt(0) - 'A'].clone();
        }
        return more;
    }

    int why(String act) {
        int[] more = adds(act);
        char head = act.charAt(0);
        for (int c = 0; c < 3; c++) {
            if (today().shown[c] + more[c] > 999) {
                return 1;
            }
        }
        if (head >= 'A' && head <= 'F' && (worn >> (head - 'A') & 1) == 1) {
            return 2;
        }
        if (head == 'w' && keeps[act.charAt(1) - '0'] == 0) {
            return 3;
        }
        return head == '.' && number() == 99 ? 4 : 0;
    }

    void act(String act) {
        int[] more = adds(act);
        for (int c = 0; c < 3; c++) {
            today().shown[c] += more[c];
        }
        char head = act.charAt(0);
        if (head >= 'A' && head <= 'F') {
            worn |= 1 << (head - 'A');
        } else if (head == 'f') {
            today().fog = !today().fog;
        } else if (head == 's') {
            today().snow = !today().snow;
        } else if (head == 'w') {
            keeps[act.charAt(1) - '0'] = 0;
        } else if (head == '.') {
            next();
        }
    }

    /** {the act, why, the first day over the limit, acts}, with the gorge behind in end[0]. */
    int[] play(SlowGorge[] end) {
        SlowGorge g = copy();
        int over = NONE;
        List<String> acts = acts();
        for (int i = 0; i < acts.size(); i++) {
            int why = g.why(acts.get(i));
            if (why != 0) {
                return new int[] {i, why, NO, NO};
            }
            if (acts.get(i).equals(".") && over == NONE && g.over()) {
                over = g.number() - number();
            }
            g.act(acts.get(i));
        }
        if (over == NONE && g.over()) {
            over = g.number() - number();
        }
        end[0] = g;
        return new int[] {NONE, NONE, over, acts.size()};
    }

    int gone() {
        int first = NONE;
        for (int d = 60; d >= 0; d--) {
            SlowGorge g = later(d);
            if (g.seenToday(0) + g.seenToday(1) + g.seenToday(2) > 0) {
                break;
            }
            first = d;
        }
        return first;
    }

    int seenIf(int colour, int d, int more) {
        SlowGorge g = copy();
        g.today().shown[colour] += more;
        return g.later(d).seenToday(colour);
    }

    int[] make(int colour, int d, int v) {
        for (int more = 0; more <= 999; more++) {
            int seen = seenIf(colour, d, more);
            if (seen >= v) {
                return new int[] {more, seen};
            }
        }
        return new int[] {NONE, NONE};
    }

    int[] wish(int set, int d, int wish) {
        int[] wanted = {wish / 1000000, wish / 1000 % 1000, wish % 1000};
        int[] best = {Integer.MAX_VALUE, 0};
        for (int some = 0; some < 64; some++) {
            if ((some | set) != set) {
                continue;
            }
            SlowGorge g = copy();
            for (int i = 0; i < 6; i++) {
                for (int c = 0; c < 3 && (some >> i & 1) == 1; c++) {
                    g.today().shown[c] += dress[i][c];
                }
            }
            g = g.later(d);
            int difference = 0;
            for (int c = 0; c < 3; c++) {
                difference += Math.abs(g.seenToday(c) - wanted[c]);
            }
            if (difference < best[0]) {
                best = new int[] {difference, some};
            }
        }
        return best;
    }

    int[] whiten(int d, int v) {
        for (int size = 0; size <= 4; size++) {
            for (int set = 0; set < 16; set++) {
                if (Integer.bitCount(set) == size && fades(set, d, v)) {
                    return new int[] {size, set};
                }
            }
        }
        return new int[] {NONE, NONE};
    }

    private boolean fades(int set, int d, int v) {
        SlowGorge g = copy();
        for (int w = 0; w < 4; w++) {
            if ((set >> w & 1) == 1) {
                g.keeps[w] = 0;
            }
        }
        for (int day = 0; day <= 60; day++) {
            boolean much = g.seenToday(0) > v || g.seenToday(1) > v || g.seenToday(2) > v;
            if (day >= d && much) {
                return false;
            }
            g.next();
        }
        return true;
    }

    int[] echo(int[] of, int d) {
        SlowGorge g = empty(this);
        g.today().shown = of.clone();
        g = g.later(d);
        return new int[] {g.seenToday(0), g.seenToday(1), g.seenToday(2)};
    }

    List<Integer> apart(int set, int d) {
        List<Integer> twos = new ArrayList<>();
        for (int two = 0; two < 60; two++) {
            int a = two / 10;
            int b = two % 10;
            boolean in = a < b && b < 6 && (set >> a & 1) == 1 && (set >> b & 1) == 1;
            if (in && java.util.Arrays.equals(echo(dress[a], d), echo(dress[b], d))) {
                twos.add(two);
            }
        }
        return twos;
    }

    int spoil(int a, int b, int d) {
        int[] both = new int[3];
        for (int c = 0; c < 3; c++) {
            both[c] = dress[a][c] + dress[b][c];
        }
        return 3000 + sum(echo(both, d)) - sum(echo(dress[a], d)) - sum(echo(dress[b], d));
    }

    private static int sum(int[] of) {
        return of[0] + of[1] + of[2];
    }

    /** What is seen on the days 0 to 60 of so many tens shown on a day. */
    int[] trail(int day, int tens) {
        SlowGorge g = empty(this);
        int[] seen = new int[61];
        for (int i = 0; i <= 60; i++) {
            g.today().shown[0] = i == day ? 10 * tens : 0;
            seen[i] = g.seenToday(0);
            g.next();
        }
        return seen;
    }

    List<int[]> fitting(List<Integer> codes) {
        List<int[]> trails = new ArrayList<>();
        for (int code = 0; code < 100; code++) {
            if (code % 10 == 0) {
                continue;
            }
            int[] trail = trail(code / 10, code % 10);
            boolean fits = true;
            for (int[] sight : sights) {
                fits = fits && trail[sight[0]] == sight[1];
            }
            if (fits) {
                trails.add(trail);
                codes.add(code);
            }
        }
        return trails;
    }

    int[] look() {
        List<int[]> trails = fitting(new ArrayList<>());
        int[] best = {NONE, NONE};
        for (int day = 0; day <= 60 && !trails.isEmpty(); day++) {
            int worst = 0;
            for (int v = 0; v <= 999; v++) {
                int left = 0;
                for (int[] trail : trails) {
                    left += trail[day] == v ? 1 : 0;
                }
                worst = Math.max(worst, left);
            }
            if (best[0] == NONE || worst < best[1]) {
                best = new int[] {day, worst};
            }
        }
        return best;
    }

    /** Upper and lower number, in lowest terms. */
    long[] fogs(int colour, int d, int t, int v, int what) {
        BigInteger upper = fogSum(colour, d, t, v, what);
        BigInteger lower = BigInteger.TEN.pow(d);
        BigInteger shared = upper.gcd(lower);
        return new long[] {upper.divide(shared).longValueExact(), lower.divide(shared).longValueExact()};
    }

    private BigInteger fogSum(int colour, int d, int t, int v, int what) {
        if (d == 0) {
            int seen = seenToday(colour);
            return BigInteger.valueOf(what == 1 ? seen : seen >= v ? 1 : 0);
        }
        SlowGorge clear = later(1);
        SlowGorge foggy = later(1);
        foggy.today().fog = true;
        BigInteger ofClear = clear.fogSum(colour, d - 1, t, v, what).multiply(BigInteger.valueOf(10 - t));
        return ofClear.add(foggy.fogSum(colour, d - 1, t, v, what).multiply(BigInteger.valueOf(t)));
    }

    /** 1: who is to show wins, 0: nobody loses, -1: he loses. */
    int turnsValue(int left) {
        int best = left == 0 ? 0 : -1;
        for (int i = 0; i < 6; i++) {
            if ((left >> i & 1) == 1) {
                best = Math.max(best, valueBy(left, i));
            }
        }
        return best;
    }

    private int valueBy(int left, int i) {
        SlowGorge g = copy();
        for (int c = 0; c < 3; c++) {
            g.today().shown[c] += dress[i][c];
        }
        return g.over() ? -1 : -g.turnsValue(left & ~(1 << i));
    }

    int[] turns(int set) {
        int value = turnsValue(set);
        int winner = value == 0 ? NONE : value == 1 ? 0 : 1;
        for (int i = 0; i < 6 && value >= 0; i++) {
            if ((set >> i & 1) == 1 && valueBy(set, i) == value) {
                return new int[] {winner, i};
            }
        }
        return new int[] {winner, NONE};
    }

    int[] year(int seed, int m) {
        SlowGorge g = copy();
        long x = seed;
        int over = 0;
        int most = 0;
        for (int i = 0; i < m; i++) {
            x = (75 * x + 74) % 65537;
            g.next();
            g.today().fog = x % 7 == 0;
            g.today().snow = x % 31 == 0;
            g.today().shown[(int) (x % 3)] = (int) (x / 7 % 100);
            over += g.over() ? 1 : 0;
            for (int c = 0; c < 3; c++) {
                most = Math.max(most, g.seenToday(c));
            }
        }
        return new int[] {g.seenToday(0) + g.seenToday(1) + g.seenToday(2), over, most};
    }
}
