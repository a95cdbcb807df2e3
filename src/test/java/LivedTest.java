import java.util.Random;

/**
 * What is foretold is what comes: every forecast, make, wish and the like is held against the days themselves, lived
 * act by act on a second gorge that was made by the same calls. No other writing of the document is needed for it.
 */
public final class LivedTest {
    private static final int NONE = -6, HORIZON = 60, GORGES = 60;
    private static final Due DUE = new Due();
    private final int seed;
    private final Random random;

    private LivedTest(int seed) {
        this.seed = seed;
        random = new Random(1000 + seed);
    }

    public static void main(String[] args) {
        for (int seed = 0; seed < GORGES && DUE.wrong() == 0; seed++) {
            LivedTest test = new LivedTest(seed);
            test.daysOneByOne();
            test.forecasts();
            test.makes();
            test.wishes();
            test.whitens();
            test.echoesAlone();
            test.sights();
            test.fogChances();
            test.turnsOfTwo();
            test.years();
            test.images();
        }
        DUE.end();
    }

    private void due(String call, long want, long got) {
        DUE.is("gorge " + seed + ": " + call, want, got);
    }

    private int upTo(int most) {
        return random.nextInt(most + 1);
    }

    /**
     * The gorge of this seed, as often as it is asked for: some days old, D to F not worn. It takes some 140 calls at
     * most, so that each test has 370 left of the 512 that the document answers for.
     */
    private ColourEcho gorge() {
        ColourEcho x = new ColourEcho();
        Random draws = new Random(seed);
        for (int wall = 0; wall < 4; wall++) {
            x.wall(wall, 1 + draws.nextInt(9), draws.nextInt(seed % 3 == 0 ? 10 : 5));
        }
        for (int dress = 0; dress < 6; dress++) {
            int most = seed % 2 == 0 ? 99 : 12;
            x.dress(dress, draws.nextInt(most + 1), draws.nextInt(most + 1), draws.nextInt(most + 1));
        }
        x.limit(draws.nextInt(seed % 4 == 0 ? 1000 : 150));
        String[] acts = {"r9", "y9", "b9", "r4", "y5", "b7", "f", "s", ".", ".", ".", ".."};
        for (int act = draws.nextInt(30); act > 0; act--) {
            Due.live(x, acts[draws.nextInt(acts.length)]);
        }
        for (String act : new String[] {"A", "B", "C", "f", "s"}) {
            if (draws.nextInt(4) == 0) {
                Due.live(x, act);
            }
        }
        return x;
    }

    /** The walls of this seed's gorge, and nothing else of it. */
    private ColourEcho emptyGorge() {
        ColourEcho was = gorge();
        ColourEcho x = new ColourEcho();
        for (int wall = 0; wall < 4; wall++) {
            x.wall(wall, was.told(10 * (1 + wall)), was.told(10 * (1 + wall) + 1));
        }
        for (int dress = 0; dress < 6; dress++) {
            x.dress(dress, was.told(100 * (1 + dress)), was.told(101 + 100 * dress), was.told(102 + 100 * dress));
        }
        return x;
    }

    /** What is seen of each colour, day by day, while nothing more is shown. */
    private static int[][] live(ColourEcho x, int days) {
        int[][] seen = new int[days + 1][];
        for (int d = 0; d <= days; d++) {
            seen[d] = new int[] {x.sees(0), x.sees(1), x.sees(2)};
            x.say('.');
            x.done();
        }
        return seen;
    }

    /** What is seen d days on, if a text is done today. */
    private static int[] seenBy(ColourEcho x, String text, int d) {
        Due.live(x, text);
        Due.pass(x, d);
        return new int[] {x.sees(0), x.sees(1), x.sees(2)};
    }

    private static boolean anyOver(ColourEcho x, int most) {
        return x.sees(0) > most || x.sees(1) > most || x.sees(2) > most;
    }

    /** JUDGED, DONE, BEHIND and BROKEN of a text are what its acts are when each is done by itself. */
    private void daysOneByOne() {
        String[] kinds = {"r9", "y9", "b9", "r1", "y2", "b3", "A", "B", "C", "D", "f", "s", "w0", "w1", "w2", "w3", ".", "."};
        for (int text = 0; text < 6; text++) {
            ColourEcho lived = gorge();
            StringBuilder whole = new StringBuilder();
            int limit = lived.told(2);
            int over = NONE;
            int first = NONE;
            int why = NONE;
            int acts = 0;
            int firstDay = lived.told(1);
            for (int left = upTo(25); left > 0; left--) {
                String act = kinds[upTo(kinds.length - 1)];
                whole.append(act);
                Due.write(lived, act);
                if (first == NONE && lived.judge(0) == 0) {
                    first = acts;
                    why = lived.judge(1);
                }
                if (first == NONE) {
                    boolean ends = act.equals(".") && over == NONE && anyOver(lived, limit);
                    over = ends ? lived.told(1) - firstDay : over;
                    due("one act", 1, lived.done());
                    acts++;
                }
            }
            over = over == NONE && anyOver(lived, limit) ? lived.told(1) - firstDay : over;
            ColourEcho x = gorge();
            Due.write(x, whole.toString());
            due("judge " + whole, first, x.judge(0));
            due("why " + whole, why, x.judge(1));
            boolean can = first == NONE;
            for (int colour = 0; colour < 3; colour++) {
                due("behind " + whole, can ? lived.sees(colour) : -5, x.behind(colour));
            }
            due("day behind " + whole, can ? lived.told(1) : -5, x.behind(3));
            due("broken " + whole, can ? over : -5, x.broken());
            due("done " + whole, can ? acts : -5, x.done());
            for (int colour = 0; can && colour < 3; colour++) {
                due("as done one by one", lived.sees(colour), x.sees(colour));
                due("and later", lived.forecast(colour, 7), x.forecast(colour, 7));
            }
        }
    }

    private void forecasts() {
        int[][] seen = live(gorge(), HORIZON);
        ColourEcho x = gorge();
        int gone = HORIZON + 1;
        for (int d = HORIZON; d >= 0; d--) {
            int most = Math.max(seen[d][0], Math.max(seen[d][1], seen[d][2]));
            gone = most == 0 && gone == d + 1 ? d : gone;
            int hue = most == 0 ? NONE : seen[d][0] == most ? 0 : seen[d][1] == most ? 1 : 2;
            due("hue " + d, hue, x.hue(d));
            for (int colour = 0; colour < 3; colour++) {
                due("forecast " + colour + " " + d, seen[d][colour], x.forecast(colour, d));
            }
        }
        due("gone", gone > HORIZON ? NONE : gone, x.gone());
    }

    /** Shows so much more of a colour today: tens by their acts, the ones by F; false if that is more than 999. */
    private static boolean show(ColourEcho x, int colour, int much) {
        int ones = much % 10;
        x.dress(5, colour == 0 ? ones : 0, colour == 1 ? ones : 0, colour == 2 ? ones : 0);
        StringBuilder text = new StringBuilder("F");
        for (int tens = much / 10; tens > 0; tens -= 9) {
            text.append("ryb".charAt(colour)).append(Math.min(9, tens));
        }
        return Due.live(x, text.toString()) > 0;
    }

    private void makes() {
        for (int n = 0; n < 8; n++) {
            int colour = upTo(2);
            int d = upTo(n < 4 ? 9 : HORIZON);
            int now = gorge().forecast(colour, d);
            int v = Math.min(999, now + upTo(n % 2 == 0 ? 40 : 400));
            String told = "make " + colour + " " + d + " " + v;
            int much = gorge().make(colour, d, v, 0);
            int seen = gorge().make(colour, d, v, 1);
            ColourEcho enough = gorge();
            if (much == NONE) {
                due(told, NONE, seen);
                if (show(enough, colour, 999)) {
                    Due.pass(enough, d);
                    due(told + " by 999", 1, enough.sees(colour) < v ? 1 : 0);
                }
                continue;
            }
            if (show(enough, colour, much)) {
                Due.pass(enough, d);
                due(told + " seen", enough.sees(colour), seen);
                due(told + " enough", 1, seen >= v ? 1 : 0);
            }
            ColourEcho less = gorge();
            if (much > 0 && show(less, colour, much - 1)) {
                Due.pass(less, d);
                due(told + " by one less", 1, less.sees(colour) < v ? 1 : 0);
            }
        }
    }

    private static String letters(int set) {
        StringBuilder text = new StringBuilder();
        for (int dress = 0; dress < 6; dress++) {
            if ((set >> dress & 1) == 1) {
                text.append((char) ('A' + dress));
            }
        }
        return text.toString();
    }

    private void wishes() {
        int set = upTo(63) & ~gorge().told(6);
        for (int d : new int[] {0, 1 + upTo(8), upTo(HORIZON)}) {
            int[] of = {upTo(300), upTo(300), upTo(300)};
            int best = Integer.MAX_VALUE;
            int bestSet = NONE;
            for (int some = 0; some <= set; some++) {
                if ((some & set) == some) {
                    int[] seen = seenBy(gorge(), letters(some), d);
                    int far = Math.abs(seen[0] - of[0]) + Math.abs(seen[1] - of[1]) + Math.abs(seen[2] - of[2]);
                    bestSet = far < best ? some : bestSet;
                    best = Math.min(best, far);
                }
            }
            int wish = 1000000 * of[0] + 1000 * of[1] + of[2];
            due("wish " + set + " " + d + " " + wish, best, gorge().wish(set, d, wish, 0));
            due("wish " + set + " " + d + " " + wish + " set", bestSet, gorge().wish(set, d, wish, 1));
        }
    }

    private void whitens() {
        int[][] most = new int[16][];
        for (int set = 0; set < 16; set++) {
            ColourEcho x = gorge();
            for (int wall = 0; wall < 4; wall++) {
                if ((set >> wall & 1) == 1 && x.told(10 * (1 + wall) + 1) > 0) {
                    Due.live(x, "w" + wall);
                }
            }
            int[][] seen = live(x, HORIZON);
            most[set] = new int[HORIZON + 2];
            for (int d = HORIZON; d >= 0; d--) {
                most[set][d] = Math.max(most[set][d + 1], Math.max(seen[d][0], Math.max(seen[d][1], seen[d][2])));
            }
        }
        ColourEcho x = gorge();
        for (int n = 0; n < 12; n++) {
            int d = n < 3 ? n : upTo(HORIZON);
            int v = Math.max(0, most[upTo(15)][d] - upTo(1));
            int many = 5;
            int which = NONE;
            for (int set = 0; set < 16; set++) {
                if (most[set][d] <= v && Integer.bitCount(set) < many) {
                    many = Integer.bitCount(set);
                    which = set;
                }
            }
            due("whiten " + d + " " + v, which == NONE ? NONE : many, x.whiten(d, v, 0));
            due("whiten " + d + " " + v + " which", which, x.whiten(d, v, 1));
        }
    }

    /** APART and SPOIL: dresses that go out on a day of a gorge that has seen nothing. */
    private void echoesAlone() {
        for (int d : new int[] {0, 1, 1 + upTo(8), upTo(HORIZON)}) {
            int[][] one = new int[6][];
            for (int dress = 0; dress < 6; dress++) {
                one[dress] = seenBy(emptyGorge(), letters(1 << dress), d);
            }
            int set = 63 - upTo(15);
            int count = 0;
            ColourEcho x = gorge();
            for (int a = 0; a < 6; a++) {
                for (int b = a + 1; b < 6; b++) {
                    int more = 3000;
                    int[] both = seenBy(emptyGorge(), letters(1 << a | 1 << b), d);
                    for (int colour = 0; colour < 3; colour++) {
                        more += both[colour] - one[a][colour] - one[b][colour];
                    }
                    due("spoil " + a + b + " " + d, more, x.spoil(a, b, d));
                    due("spoil " + b + a + " " + d, more, x.spoil(b, a, d));
                    if ((set >> a & set >> b & 1) == 1 && java.util.Arrays.equals(one[a], one[b])) {
                        due("apart " + set + " " + d + " " + count, 10 * a + b, x.apart(set, d, count));
                        count++;
                    }
                }
            }
            due("apart " + set + " " + d, count, x.apart(set, d, -1));
            due("apart " + set + " " + d + " no more", NONE, x.apart(set, d, count));
        }
    }

    /** SHOWN and LOOK: each day and tens shown once in a gorge that has seen nothing, looked at on each of its days. */
    private void sights() {
        int[][] views = new int[90][];
        int[] codes = new int[90];
        for (int guess = 0; guess < 90; guess++) {
            codes[guess] = 10 * (guess / 9) + guess % 9 + 1;
            ColourEcho x = emptyGorge();
            views[guess] = new int[HORIZON + 1];
            Due.pass(x, guess / 9);
            Due.live(x, "r" + (guess % 9 + 1));
            for (int day = guess / 9; day <= HORIZON; day++) {
                views[guess][day] = x.sees(0);
                x.say('.');
                x.done();
            }
        }
        ColourEcho x = gorge();
        boolean[] out = new boolean[90];
        int truth = upTo(89);
        for (int n = 0; n < 3; n++) {
            int count = 0;
            for (int guess = 0; guess < 90; guess++) {
                if (!out[guess]) {
                    due("shown " + count, codes[guess], x.shown(count));
                    count++;
                }
            }
            due("shown", count, x.shown(-1));
            due("shown no more", NONE, x.shown(count));
            int[] look = lookAt(views, out);
            due("look", count == 0 ? NONE : look[0], x.look(0));
            due("look how many", count == 0 ? NONE : look[1], x.look(1));
            int day = upTo(15);
            int v = views[n == 1 ? upTo(89) : truth][day];
            due("seen " + day + " " + v, n + 1, x.seen(day, v));
            for (int guess = 0; guess < 90; guess++) {
                out[guess] |= views[guess][day] != v;
            }
        }
    }

    private static int[] lookAt(int[][] views, boolean[] out) {
        int[] best = {NONE, Integer.MAX_VALUE};
        for (int day = 0; day <= HORIZON; day++) {
            int worst = 0;
            for (int one = 0; one < 90; one++) {
                int alike = 0;
                for (int other = 0; other < 90; other++) {
                    alike += !out[one] && !out[other] && views[one][day] == views[other][day] ? 1 : 0;
                }
                worst = Math.max(worst, alike);
            }
            best = worst < best[1] ? new int[] {day, worst} : best;
        }
        return best;
    }

    /** FOGS: each way in which the fogs can fall is lived, and weighed. */
    private void fogChances() {
        int colour = upTo(2);
        int d = upTo(5);
        int t = upTo(10);
        int[] seen = new int[1 << d];
        long[] weight = new long[1 << d];
        for (int fogs = 0; fogs < 1 << d; fogs++) {
            StringBuilder text = new StringBuilder();
            weight[fogs] = 1;
            for (int day = 0; day < d; day++) {
                boolean fog = (fogs >> day & 1) == 1;
                text.append(fog ? ".f" : ".");
                weight[fogs] *= fog ? t : 10 - t;
            }
            seen[fogs] = seenBy(gorge(), text.toString(), 0)[colour];
        }
        ColourEcho x = gorge();
        for (int n = 0; n < 4; n++) {
            int v = n == 0 ? 0 : Math.min(999, seen[upTo(seen.length - 1)] + upTo(1));
            long[] upper = new long[2];
            long lower = 0;
            for (int fogs = 0; fogs < seen.length; fogs++) {
                upper[0] += seen[fogs] >= v ? weight[fogs] : 0;
                upper[1] += weight[fogs] * seen[fogs];
                lower += weight[fogs];
            }
            for (int what = 0; what < 2; what++) {
                java.math.BigInteger shared = java.math.BigInteger.valueOf(upper[what]).gcd(java.math.BigInteger.valueOf(lower));
                String told = "fogs " + colour + " " + d + " " + t + " " + v + " " + what;
                due(told, upper[what] / shared.longValue(), x.fogs(colour, d, t, v, what, 0));
                due(told + " lower", lower / shared.longValue(), x.fogs(colour, d, t, v, what, 1));
            }
        }
    }

    /** What he gets who is to show the next of these: 1 he wins, 0 nobody loses, -1 he loses. */
    private int bestOf(String out, int left) {
        int best = left == 0 ? 0 : -1;
        for (int dress = 0; dress < 6; dress++) {
            if ((left >> dress & 1) == 1) {
                best = Math.max(best, gets(out + (char) ('A' + dress), left & ~(1 << dress)));
            }
        }
        return best;
    }

    /** What he gets by whom the last of these was shown. */
    private int gets(String out, int left) {
        ColourEcho x = gorge();
        Due.write(x, out);
        return x.broken() == 0 ? -1 : -bestOf(out, left);
    }

    private void turnsOfTwo() {
        int set = upTo(63) & ~gorge().told(6) & ~(1 << upTo(5));
        int best = bestOf("", set);
        int by = NONE;
        for (int dress = 5; dress >= 0; dress--) {
            boolean in = (set >> dress & 1) == 1;
            by = in && best >= 0 && gets(letters(1 << dress), set & ~(1 << dress)) == best ? dress : by;
        }
        due("turns " + set, best == 0 ? NONE : best == 1 ? 0 : 1, gorge().turns(set, 0));
        due("turns " + set + " by", by, gorge().turns(set, 1));
    }

    /** A year is lived by F, cut anew each day for what is shown on it. */
    private void years() {
        for (int m : new int[] {1, 2 + upTo(10), 36}) {
            int draw = upTo(9999);
            ColourEcho lived = gorge();
            int limit = lived.told(2);
            int x = draw;
            int over = 0;
            int most = 0;
            for (int day = 0; day < m; day++) {
                x = (75 * x + 74) % 65537;
                int much = x / 7 % 100;
                lived.dress(5, x % 3 == 0 ? much : 0, x % 3 == 1 ? much : 0, x % 3 == 2 ? much : 0);
                Due.live(lived, "." + (x % 7 == 0 ? "f" : "") + (x % 31 == 0 ? "s" : "") + "F");
                int ofOne = Math.max(lived.sees(0), Math.max(lived.sees(1), lived.sees(2)));
                over += ofOne > limit ? 1 : 0;
                most = Math.max(most, ofOne);
            }
            ColourEcho asked = gorge();
            due("year " + draw + " " + m, lived.sees(0) + lived.sees(1) + lived.sees(2), asked.year(draw, m, 0));
            due("year " + draw + " " + m + " days", over, asked.year(draw, m, 1));
            due("year " + draw + " " + m + " most", most, asked.year(draw, m, 2));
        }
    }

    /** Days that were lived since are as if they had not been. */
    private void images() {
        ColourEcho x = gorge();
        int n = upTo(1);
        due("image", 1, x.image(n));
        x.wall(upTo(3), 1 + upTo(8), upTo(9));
        Due.live(x, "r9sD..y5.f");
        x.limit(upTo(999));
        due("restore", 1, x.restore(n));
        int[][] seen = live(gorge(), 12);
        for (int d = 0; d <= 12; d++) {
            for (int colour = 0; colour < 3; colour++) {
                due("as it was " + d, seen[d][colour], x.forecast(colour, d));
            }
        }
        for (int what = 1; what < 7; what++) {
            due("told " + what, gorge().told(what), x.told(what));
        }
    }
}
