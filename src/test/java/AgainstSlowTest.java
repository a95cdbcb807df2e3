import java.util.ArrayList;
import java.util.List;
import java.util.Random;

/** Runs of calls by draws, of which every answer is held against the slow gorge's. */
public final class AgainstSlowTest {
    /** One step asks some 115 times at most, so a run stays within the 512 calls that an object answers for. */
    private static final int RUNS = 1200, STEPS = 90, MOST_ASKED = 395;
    private final Due due = new Due();
    private final Random random;
    private final ColourEcho fast = new ColourEcho();
    private SlowGorge slow = new SlowGorge();
    private final StringBuilder log = new StringBuilder();

    private AgainstSlowTest(long seed) {
        random = new Random(seed);
    }

    public static void main(String[] args) {
        int wrong = 0;
        for (int run = 0; run < RUNS && wrong == 0; run++) {
            AgainstSlowTest test = new AgainstSlowTest(run);
            for (int step = 0; step < STEPS && test.due.wrong() == 0 && test.due.asked() < MOST_ASKED; step++) {
                test.call();
            }
            if (test.due.wrong() != 0) {
                System.out.println("run " + run + ":" + test.log);
            }
            wrong += test.due.wrong();
        }
        System.out.println(RUNS + " runs by draws, " + wrong + " answers not as due");
        if (wrong != 0) {
            System.exit(1);
        }
    }

    private int upTo(int most) {
        return random.nextInt(most + 1);
    }

    /** A number within bounds, often at their edges, seldom beyond them. */
    private int near(int least, int most) {
        int kind = upTo(40);
        if (kind == 0) {
            return least - 1;
        }
        if (kind == 1) {
            return most + 1;
        }
        return kind < 6 ? least : kind < 10 ? most : least + upTo(most - least);
    }

    private static boolean in(int number, int least, int most) {
        return number >= least && number <= most;
    }

    private void is(String call, long want, long got) {
        log.append(' ').append(call).append('=').append(got);
        due.is(call, want, got);
    }

    private void call() {
        switch (upTo(27)) {
            case 0: case 1: case 2: wall(); break;
            case 3: case 4: dress(); break;
            case 5: limit(); break;
            case 6: case 7: case 8: case 9: days(); break;
            case 10: sees(); break;
            case 11: forecast(); break;
            case 12: goneAndHue(); break;
            case 13: if (upTo(4) == 0) { make(); } break;
            case 14: wish(); break;
            case 15: whiten(); break;
            case 16: apart(); break;
            case 17: spoil(); break;
            case 18: case 19: sight(); break;
            case 20: shown(); break;
            case 21: look(); break;
            case 22: fogs(); break;
            case 23: turns(); break;
            case 24: year(); break;
            case 25: images(); break;
            default: told(); break;
        }
    }

    private void wall() {
        int w = near(0, 3);
        int off = near(1, 9);
        int keeps = near(0, upTo(2) == 0 ? 9 : 5);
        int want = !in(w, 0, 3) ? -1 : !in(off, 1, 9) || !in(keeps, 0, 9) ? -2 : slow.keeps[w];
        if (want >= 0) {
            slow.off[w] = off;
            slow.keeps[w] = keeps;
        }
        is("wall(" + w + "," + off + "," + keeps + ")", want, fast.wall(w, off, keeps));
    }

    private void dress() {
        int i = near(0, 5);
        int most = upTo(1) == 0 ? 99 : 12;
        int[] of = {near(0, most), near(0, most), near(0, most)};
        boolean fits = in(of[0], 0, 99) && in(of[1], 0, 99) && in(of[2], 0, 99);
        int want = !in(i, 0, 5) ? -1 : !fits ? -2 : slow.dress[i][0] + slow.dress[i][1] + slow.dress[i][2];
        if (want >= 0) {
            slow.dress[i] = of;
        }
        is("dress(" + i + "," + of[0] + "," + of[1] + "," + of[2] + ")", want, fast.dress(i, of[0], of[1], of[2]));
    }

    private void limit() {
        int v = upTo(1) == 0 ? near(0, 999) : near(0, 150);
        int want = in(v, 0, 999) ? slow.limit : -2;
        if (want >= 0) {
            slow.limit = v;
        }
        is("limit(" + v + ")", want, fast.limit(v));
    }

    private String text() {
        StringBuilder text = new StringBuilder();
        int acts = upTo(2) == 0 ? upTo(40) : upTo(10);
        for (int i = 0; i < acts; i++) {
            switch (upTo(9)) {
                case 0: case 1: case 2:
                    text.append("ryb".charAt(upTo(2))).append((char) ('1' + upTo(8)));
                    break;
                case 3: case 4: text.append((char) ('A' + upTo(5))); break;
                case 5: text.append(upTo(2) == 0 ? 'f' : '.'); break;
                case 6: text.append(upTo(3) == 0 ? 's' : '.'); break;
                case 7: text.append(upTo(9) == 0 ? "w" + upTo(3) : "."); break;
                default: text.append('.'); break;
            }
        }
        if (upTo(9) == 0) {
            text.insert(upTo(text.length()), (char) (33 + upTo(93)));
        }
        if (upTo(15) == 0) {
            text.append("r9r9r9r9r9r9r9r9r9r9r9r9".substring(upTo(6)));
        }
        return text.toString();
    }

    private void days() {
        if (upTo(3) != 0) {
            is("wipe", slow.pad.length(), fast.wipe());
            slow.pad = "";
        }
        String text = text();
        for (int i = 0; i < text.length(); i++) {
            boolean room = slow.pad.length() < 60;
            slow.pad += room ? text.substring(i, i + 1) : "";
            is("say(" + text.charAt(i) + ")", room ? slow.pad.length() : -4, fast.say(text.charAt(i)));
        }
        int fault = slow.fault();
        is("fault", fault, fast.fault());
        SlowGorge[] end = new SlowGorge[1];
        int[] want = fault != -6 ? new int[] {-5, -5, -5, -5} : slow.play(end);
        is("judge(0)", want[0], fast.judge(0));
        is("judge(1)", want[1], fast.judge(1));
        for (int c = 0; c < 3; c++) {
            is("behind(" + c + ")", end[0] == null ? -5 : end[0].seenToday(c), fast.behind(c));
        }
        is("behind(3)", end[0] == null ? -5 : end[0].number(), fast.behind(3));
        is("broken", want[2], fast.broken());
        is("done", want[3], fast.done());
        if (end[0] != null) {
            end[0].images = slow.images;
            slow = end[0];
            slow.pad = "";
        }
    }

    private void sees() {
        int c = near(0, 2);
        is("sees(" + c + ")", in(c, 0, 2) ? slow.seenToday(c) : -2, fast.sees(c));
    }

    private void forecast() {
        int c = near(0, 2);
        int d = near(0, upTo(1) == 0 ? 60 : 12);
        int want = in(c, 0, 2) && in(d, 0, 60) ? slow.later(d).seenToday(c) : -2;
        is("forecast(" + c + "," + d + ")", want, fast.forecast(c, d));
    }

    private void goneAndHue() {
        is("gone", slow.gone(), fast.gone());
        int d = near(0, upTo(1) == 0 ? 60 : 12);
        int want = -2;
        if (in(d, 0, 60)) {
            SlowGorge g = slow.later(d);
            int most = Math.max(g.seenToday(0), Math.max(g.seenToday(1), g.seenToday(2)));
            want = most == 0 ? -6 : g.seenToday(0) == most ? 0 : g.seenToday(1) == most ? 1 : 2;
        }
        is("hue(" + d + ")", want, fast.hue(d));
    }

    private void make() {
        int c = near(0, 2);
        int d = near(0, upTo(3) == 0 ? 60 : 9);
        int v = near(0, upTo(2) == 0 ? 999 : 100);
        boolean fits = in(c, 0, 2) && in(d, 0, 60) && in(v, 0, 999);
        int[] want = fits ? slow.make(c, d, v) : new int[] {-2, -2};
        String call = "make(" + c + "," + d + "," + v + ",";
        is(call + "0)", want[0], fast.make(c, d, v, 0));
        is(call + "1)", want[1], fast.make(c, d, v, 1));
    }

    private void wish() {
        int set = near(0, 63);
        int d = near(0, upTo(3) == 0 ? 60 : 9);
        int most = upTo(1) == 0 ? 999 : 150;
        int wish = upTo(20) == 0 ? near(0, 999999999) : 1000000 * upTo(most) + 1000 * upTo(most) + upTo(most);
        int[] want = {-2, -2};
        if (!in(set, 0, 63)) {
            want = new int[] {-1, -1};
        } else if (in(d, 0, 60) && in(wish, 0, 999999999)) {
            want = slow.wish(set, d, wish);
        }
        String call = "wish(" + set + "," + d + "," + wish + ",";
        is(call + "0)", want[0], fast.wish(set, d, wish, 0));
        is(call + "1)", want[1], fast.wish(set, d, wish, 1));
    }

    private void whiten() {
        int d = near(0, upTo(3) == 0 ? 60 : 9);
        int v = near(0, upTo(2) == 0 ? 999 : 60);
        int[] want = in(d, 0, 60) && in(v, 0, 999) ? slow.whiten(d, v) : new int[] {-2, -2};
        is("whiten(" + d + "," + v + ",0)", want[0], fast.whiten(d, v, 0));
        is("whiten(" + d + "," + v + ",1)", want[1], fast.whiten(d, v, 1));
    }

    private void apart() {
        int set = near(0, 63);
        int d = near(0, upTo(3) == 0 ? 60 : 9);
        String call = "apart(" + set + "," + d + ",";
        if (!in(set, 0, 63) || !in(d, 0, 60)) {
            int want = in(set, 0, 63) ? -2 : -1;
            is(call + "-1)", want, fast.apart(set, d, -1));
            return;
        }
        List<Integer> twos = slow.apart(set, d);
        is(call + "-1)", twos.size(), fast.apart(set, d, -1));
        for (int i = 0; i <= twos.size(); i++) {
            is(call + i + ")", i < twos.size() ? twos.get(i) : -6, fast.apart(set, d, i));
        }
    }

    private void spoil() {
        int a = near(0, 5);
        int b = near(0, 5);
        int d = near(0, upTo(3) == 0 ? 60 : 9);
        int want = !in(a, 0, 5) || !in(b, 0, 5) || a == b ? -1 : !in(d, 0, 60) ? -2 : slow.spoil(a, b, d);
        is("spoil(" + a + "," + b + "," + d + ")", want, fast.spoil(a, b, d));
    }

    private void sight() {
        if (upTo(3) == 0) {
            is("forget", slow.sights.size(), fast.forget());
            slow.sights.clear();
        }
        int day = near(0, upTo(4) == 0 ? 60 : 14);
        int v = near(0, 999);
        if (upTo(9) != 0 && in(day, 0, 60)) {
            v = slow.trail(upTo(9), 1 + upTo(8))[day];
        }
        boolean fits = in(day, 0, 60) && in(v, 0, 999);
        int want = !fits ? -2 : slow.sights.size() == 8 ? -4 : slow.sights.size() + 1;
        if (want > 0) {
            slow.sights.add(new int[] {day, v});
        }
        is("seen(" + day + "," + v + ")", want, fast.seen(day, v));
    }

    private void shown() {
        List<Integer> codes = new ArrayList<>();
        slow.fitting(codes);
        is("shown(-1)", codes.size(), fast.shown(-1));
        int i = upTo(codes.size());
        is("shown(" + i + ")", i < codes.size() ? codes.get(i) : -6, fast.shown(i));
        is("shown(-2)", -6, fast.shown(-2));
    }

    private void look() {
        int[] want = slow.look();
        is("look(0)", want[0], fast.look(0));
        is("look(1)", want[1], fast.look(1));
    }

    private void fogs() {
        int c = near(0, 2);
        int d = near(0, 8);
        int t = near(0, 10);
        int v = near(0, upTo(2) == 0 ? 999 : 60);
        boolean fits = in(c, 0, 2) && in(d, 0, 8) && in(t, 0, 10) && in(v, 0, 999);
        for (int what = 0; what < 2; what++) {
            long refused = -1000000000000000002L;
            long[] want = fits ? slow.fogs(c, d, t, v, what) : new long[] {refused, refused};
            String call = "fogs(" + c + "," + d + "," + t + "," + v + "," + what + ",";
            is(call + "0)", want[0], fast.fogs(c, d, t, v, what, 0));
            is(call + "1)", want[1], fast.fogs(c, d, t, v, what, 1));
        }
    }

    private void turns() {
        int set = near(0, 63);
        int[] want = in(set, 0, 63) ? slow.turns(set) : new int[] {-1, -1};
        is("turns(" + set + ",0)", want[0], fast.turns(set, 0));
        is("turns(" + set + ",1)", want[1], fast.turns(set, 1));
    }

    private void year() {
        int seed = near(0, 9999);
        int m = near(1, 60);
        int[] want = in(seed, 0, 9999) && in(m, 1, 60) ? slow.year(seed, m) : new int[] {-2, -2, -2};
        for (int what = 0; what < 3; what++) {
            is("year(" + seed + "," + m + "," + what + ")", want[what], fast.year(seed, m, what));
        }
    }

    private void images() {
        int n = near(0, 1);
        if (upTo(2) != 0) {
            is("image(" + n + ")", in(n, 0, 1) ? 1 : -2, fast.image(n));
            if (in(n, 0, 1)) {
                slow.images[n] = slow.copy();
            }
            return;
        }
        int want = !in(n, 0, 1) ? -2 : slow.images[n] == null ? -3 : 1;
        is("restore(" + n + ")", want, fast.restore(n));
        if (want == 1) {
            SlowGorge again = slow.images[n].copy();
            again.images = slow.images;
            again.pad = slow.pad;
            slow = again;
        }
    }

    private void told() {
        SlowGorge.Day today = slow.today();
        int[] want = {slow.pad.length(), slow.number(), slow.limit, slow.sights.size(),
            today.fog ? 1 : 0, today.snow ? 1 : 0, slow.worn, -2};
        for (int what = 0; what < want.length; what++) {
            is("told(" + what + ")", want[what], fast.told(what));
        }
        int w = upTo(3);
        is("told off " + w, slow.off[w], fast.told(10 * (1 + w)));
        is("told keeps " + w, slow.keeps[w], fast.told(10 * (1 + w) + 1));
        int i = upTo(5);
        int c = upTo(2);
        is("told dress " + i, slow.dress[i][c], fast.told(100 * (1 + i) + c));
    }
}
