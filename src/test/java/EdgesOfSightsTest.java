/** The boundary cases of the document's section 4 and of promises 21 to 30: sights, fogs, turns, years, images, told. */
public final class EdgesOfSightsTest {
    private static final int NONE = -6, UNKNOWN = -1, OUTSIDE = -2, STATE = -3, FULL = -4;
    private static final long LOST = -1000000000000000000L;
    private static final Due DUE = new Due();

    public static void main(String[] args) {
        noSight();
        eightSights();
        sightsAtTheirEnds();
        daysZeroToNine();
        tensOneToNine();
        nothingAheadOfTheShow();
        sightsThatAgreeAndThatDoNot();
        wallsAsNow();
        emptyWhateverWasSeen();
        shownByPlace();
        lookTheLeastDay();
        lookAtDay60();
        lookNoFartherThanDay60();
        lookWhenNothingFits();
        fogsOnNoDay();
        fogsOnEightDays();
        fogsNeverAndAlways();
        fogsOfNothingAndOfMost();
        fogsFromTodaysFogAndSnow();
        fogsRefused();
        turnsOfNobody();
        turnsOfEachAlone();
        turnsAtTheLimit();
        turnsAtBothLimits();
        turnsPastTheLimit();
        turnsWornAlready();
        turnsTheLeastDress();
        turnsRefused();
        yearOfOneDay();
        yearAtItsEnds();
        yearFromDay99();
        yearFromTodaysFogAndSnow();
        yearAtTheLimit();
        yearOutside();
        imagesThatWereNotKept();
        imagesAreTwo();
        imagesKeepAllButThePad();
        toldAtItsEnds();
        DUE.end();
    }

    private static void due(String call, long want, long got) {
        DUE.is(call, want, got);
    }

    private static void noSight() {
        ColourEcho x = new ColourEcho();
        due("told", 0, x.told(3));
        due("forget", 0, x.forget());
        due("everything fits", 90, x.shown(-1));
        due("day 0 is the least of ten like it", 0, x.look(0));
        due("81 of another day", 81, x.look(1));
    }

    /** "SIGHTS, 8 at most". */
    private static void eightSights() {
        ColourEcho x = new ColourEcho();
        for (int n = 1; n <= 7; n++) {
            due("sight " + n, n, x.seen(60, 0));
        }
        due("the 8th", 8, x.seen(3, 20));
        due("the 9th", FULL, x.seen(60, 0));
        due("outside comes first", OUTSIDE, x.seen(61, 0));
        due("outside comes first", OUTSIDE, x.seen(0, 1000));
        due("told", 8, x.told(3));
        due("the 8th counts", 1, x.shown(-1));
        due("as day 3, two tens", 32, x.shown(0));
        due("forget", 8, x.forget());
        due("room again", 1, x.seen(0, 0));
        due("forget", 1, x.forget());
    }

    /** "so much (0 to 999) was SEEN on a day (0 to 60)". */
    private static void sightsAtTheirEnds() {
        ColourEcho x = new ColourEcho();
        due("-1", OUTSIDE, x.seen(-1, 0));
        due("0", 1, x.seen(0, 0));
        due("60", 2, x.seen(60, 999));
        due("61", OUTSIDE, x.seen(61, 0));
        due("-1 of it", OUTSIDE, x.seen(0, -1));
        due("1000 of it", OUTSIDE, x.seen(0, 1000));
        x.forget();
        x.wall(0, 1, 9);
        x.wall(1, 1, 9);
        x.seen(60, 999);
        due("999 of everything by day 60", 90, x.shown(-1));
        due("so another day is looked at", 1, x.look(1) < 90 ? 1 : 0);
        x.seen(60, 998);
        due("998 of nothing", 0, x.shown(-1));
    }

    /** "on one of the days 0 to 9". */
    private static void daysZeroToNine() {
        for (int day = 0; day <= 60; day++) {
            ColourEcho x = new ColourEcho();
            x.seen(day, 50);
            due("shown on day " + day, day <= 9 ? 1 : 0, x.shown(-1));
            due("which", day <= 9 ? 10 * day + 5 : NONE, x.shown(0));
        }
    }

    /** "some tens of it (1 to 9)". */
    private static void tensOneToNine() {
        for (int v = 0; v <= 110; v++) {
            ColourEcho x = new ColourEcho();
            x.seen(9, v);
            boolean tens = v % 10 == 0 && v >= 10 && v <= 90;
            due("shown by " + v, v == 0 ? 81 : tens ? 1 : 0, x.shown(-1));
            due("which", v == 0 ? 1 : tens ? 90 + v / 10 : NONE, x.shown(0));
        }
    }

    /** "shown once in an empty gorge": nothing is SEEN ahead of the day. */
    private static void nothingAheadOfTheShow() {
        ColourEcho x = new ColourEcho();
        x.wall(0, 1, 5);
        Due.live(x, "r9f");
        x.seen(8, 0);
        due("day 8 itself", 0, fits(x, 89));
        due("day 9 fits", 1, fits(x, 91));
        due("day 4: 5, 2, 1, 0", 1, fits(x, 41));
        due("day 5: 5, 2, 1", 0, fits(x, 51));
    }

    private static int fits(ColourEcho x, int guess) {
        for (int i = 0; i < 90; i++) {
            if (x.shown(i) == guess) {
                return 1;
            }
        }
        return 0;
    }

    private static void sightsThatAgreeAndThatDoNot() {
        ColourEcho x = new ColourEcho();
        x.seen(2, 70);
        due("the same again", 2, x.seen(2, 70));
        due("fits", 27, x.shown(0));
        due("another on that day", 3, x.seen(2, 60));
        due("none fits", 0, x.shown(-1));
        due("no first", NONE, x.shown(0));
        due("nothing to look at", NONE, x.look(0));
        due("sights stay", 3, x.forget());
        due("all fit again", 90, x.shown(-1));
    }

    /** "(WALLS as now)". */
    private static void wallsAsNow() {
        ColourEcho x = new ColourEcho();
        x.seen(9, 45);
        due("white walls", 0, x.shown(-1));
        x.wall(3, 9, 5);
        due("day 0 by nine tens", 1, x.shown(-1));
        due("which", 9, x.shown(0));
        x.wall(3, 8, 5);
        due("day 1", 19, x.shown(0));
        Due.live(x, "w3");
        due("whitened", 0, x.shown(-1));
    }

    /** "in an empty gorge": what was SEEN on the nine days ahead in fact comes back in none of the guesses. */
    private static void emptyWhateverWasSeen() {
        for (int off = 1; off <= 9; off++) {
            ColourEcho x = new ColourEcho();
            x.wall(0, off, 1);
            Due.live(x, "r9.r9.r9.r9.r9.r9.r9.r9.r9.r9");
            x.seen(0, 90);
            due("nine tens on day 0", 9, x.shown(0));
            for (int day = 1; day <= 6; day++) {
                due("much comes back in fact", day <= off ? 9 : 0, x.forecast(0, day));
                x.seen(day, day == off ? 9 : 0);
                due("and in the guess on the day alone", 9, x.shown(0));
            }
        }
    }

    /** "the i-th (10 times the day and the tens; rising)". */
    private static void shownByPlace() {
        ColourEcho x = new ColourEcho();
        for (int i = 0; i < 90; i++) {
            due("the " + i + "-th", i / 9 * 10 + i % 9 + 1, x.shown(i));
        }
        due("the 90-th", NONE, x.shown(90));
        due("far behind", NONE, x.shown(Integer.MAX_VALUE));
        due("ahead of how many", NONE, x.shown(-2));
        due("far ahead", NONE, x.shown(Integer.MIN_VALUE));
    }

    /** "the day (0 to 60) to look at next .. the least". */
    private static void lookTheLeastDay() {
        ColourEcho x = new ColourEcho();
        x.seen(0, 10);
        due("one fits: any day", 0, x.look(0));
        due("one is left", 1, x.look(1));
        x.forget();
        for (int day = 0; day < 9; day++) {
            due("day " + day, day, x.look(0));
            due("all but nine", 81 - 9 * day, x.look(1));
            due("it was on none of them", day == 8 ? FULL : day + 1, x.seen(day, 0));
        }
    }

    private static void lookAtDay60() {
        ColourEcho x = new ColourEcho();
        x.wall(0, 9, 4);
        x.wall(1, 8, 8);
        x.seen(8, 0);
        x.seen(55, 0);
        due("23 fit", 23, x.shown(-1));
        due("only the last day tells them all apart", 60, x.look(0));
        due("one is left", 1, x.look(1));
        due("-1", OUTSIDE, x.look(-1));
        due("2", OUTSIDE, x.look(2));
    }

    /** Day 61 would tell all of these apart. */
    private static void lookNoFartherThanDay60() {
        ColourEcho x = new ColourEcho();
        x.wall(0, 7, 8);
        x.wall(1, 5, 2);
        x.wall(2, 5, 4);
        x.seen(17, 0);
        due("45 fit", 45, x.shown(-1));
        due("a day from 0 to 60", 35, x.look(0));
        due("two are left", 2, x.look(1));
    }

    /** "NONE: nothing fits". */
    private static void lookWhenNothingFits() {
        ColourEcho x = new ColourEcho();
        x.seen(60, 1);
        due("day", NONE, x.look(0));
        due("how many", NONE, x.look(1));
        due("outside all the same", OUTSIDE, x.look(2));
    }

    private static void fraction(ColourEcho x, int[] call, long upper, long lower) {
        String told = "fogs " + java.util.Arrays.toString(call);
        due(told + " upper", upper, x.fogs(call[0], call[1], call[2], call[3], call[4], 0));
        due(told + " lower", lower, x.fogs(call[0], call[1], call[2], call[3], call[4], 1));
    }

    /** "d days (0 to 8)": on none of them it is today. */
    private static void fogsOnNoDay() {
        ColourEcho x = new ColourEcho();
        Due.live(x, "y7");
        for (int t = 0; t <= 10; t++) {
            fraction(x, new int[] {1, 0, t, 70, 0}, 1, 1);
            fraction(x, new int[] {1, 0, t, 71, 0}, 0, 1);
            fraction(x, new int[] {1, 0, t, 71, 1}, 70, 1);
        }
    }

    /** By one wall a day off one fog ends it: of 90 36 are left if all eight are clear. */
    private static void fogsOnEightDays() {
        ColourEcho x = new ColourEcho();
        x.wall(0, 1, 9);
        Due.live(x, "r9");
        fraction(x, new int[] {0, 8, 3, 36, 0}, 5764801, 100000000);
        fraction(x, new int[] {0, 8, 3, 1, 0}, 5764801, 100000000);
        fraction(x, new int[] {0, 8, 3, 37, 0}, 0, 1);
        fraction(x, new int[] {0, 8, 3, 0, 1}, 9 * 5764801L, 25000000);
        fraction(x, new int[] {0, 8, 9, 36, 0}, 1, 100000000);
        fraction(x, new int[] {0, 8, 1, 36, 0}, 43046721, 100000000);
        fraction(x, new int[] {0, 8, 5, 36, 0}, 1, 256);
        fraction(x, new int[] {0, 8, 5, 36, 1}, 9, 64);
        x.wall(0, 8, 5);
        fraction(x, new int[] {0, 8, 3, 45, 0}, 7, 10);
        fraction(x, new int[] {0, 7, 3, 1, 0}, 0, 1);
        x.wall(0, 9, 5);
        fraction(x, new int[] {0, 8, 3, 1, 0}, 0, 1);
    }

    /** "with t tenths (0 to 10)". */
    private static void fogsNeverAndAlways() {
        ColourEcho x = new ColourEcho();
        x.wall(0, 1, 9);
        Due.live(x, "b9");
        fraction(x, new int[] {2, 8, 0, 36, 0}, 1, 1);
        fraction(x, new int[] {2, 8, 0, 37, 0}, 0, 1);
        fraction(x, new int[] {2, 8, 0, 0, 1}, 36, 1);
        fraction(x, new int[] {2, 1, 10, 1, 0}, 0, 1);
        fraction(x, new int[] {2, 1, 10, 0, 0}, 1, 1);
        fraction(x, new int[] {2, 8, 10, 0, 1}, 0, 1);
        fraction(x, new int[] {2, 1, 9, 81, 0}, 1, 10);
        fraction(x, new int[] {2, 1, 1, 81, 0}, 9, 10);
    }

    private static void fogsOfNothingAndOfMost() {
        ColourEcho x = new ColourEcho();
        fraction(x, new int[] {0, 8, 5, 0, 0}, 1, 1);
        fraction(x, new int[] {0, 8, 5, 1, 0}, 0, 1);
        fraction(x, new int[] {0, 8, 5, 999, 1}, 0, 1);
        x.wall(0, 1, 9);
        x.wall(1, 1, 9);
        Due.show990(x, "r");
        fraction(x, new int[] {0, 1, 4, 999, 0}, 3, 5);
        fraction(x, new int[] {0, 1, 4, 999, 1}, 2997, 5);
        fraction(x, new int[] {0, 1, 4, 0, 0}, 1, 1);
    }

    private static void fogsFromTodaysFogAndSnow() {
        ColourEcho x = new ColourEcho();
        x.wall(0, 2, 5);
        Due.live(x, "r8..r1f");
        fraction(x, new int[] {0, 0, 5, 0, 1}, 10, 1);
        Due.live(x, "f");
        fraction(x, new int[] {0, 0, 5, 0, 1}, 50, 1);
        fraction(x, new int[] {0, 2, 5, 25, 0}, 1, 2);
        x.wall(0, 3, 5);
        fraction(x, new int[] {0, 1, 5, 40, 0}, 1, 2);
        Due.live(x, "s");
        fraction(x, new int[] {0, 1, 5, 1, 0}, 0, 1);
    }

    /** "refused with LOST and the refusal", "OUTSIDE: v 0 to 999 too" (of the mean as well). */
    private static void fogsRefused() {
        ColourEcho x = new ColourEcho();
        int[][] wrong = {{-1, 0, 0, 0, 0, 0}, {3, 0, 0, 0, 0, 0}, {0, -1, 0, 0, 0, 0}, {0, 9, 0, 0, 0, 0},
            {0, 0, -1, 0, 0, 0}, {0, 0, 11, 0, 0, 0}, {0, 0, 0, -1, 0, 0}, {0, 0, 0, 1000, 0, 0}, {0, 0, 0, 1000, 1, 0},
            {0, 0, 0, 0, -1, 0}, {0, 0, 0, 0, 2, 0}, {0, 0, 0, 0, 0, -1}, {0, 0, 0, 0, 0, 2}};
        for (int[] w : wrong) {
            due("fogs " + java.util.Arrays.toString(w), LOST + OUTSIDE, x.fogs(w[0], w[1], w[2], w[3], w[4], w[5]));
        }
    }

    private static void turns(ColourEcho x, int set, int who, int dress) {
        due("turns " + set, who, x.turns(set, 0));
        due("turns " + set + " by", dress, x.turns(set, 1));
    }

    private static void turnsOfNobody() {
        ColourEcho x = new ColourEcho();
        turns(x, 0, NONE, NONE);
        x.limit(0);
        Due.live(x, "r9");
        turns(x, 0, NONE, NONE);
    }

    private static void turnsOfEachAlone() {
        ColourEcho x = new ColourEcho();
        for (int dress = 0; dress < 6; dress++) {
            turns(x, 1 << dress, NONE, dress);
            turns(x, 63 & -(1 << dress), NONE, dress);
        }
    }

    /** "more than LIMIT of some COLOUR". */
    private static void turnsAtTheLimit() {
        for (int colour = 0; colour < 3; colour++) {
            ColourEcho x = new ColourEcho();
            x.limit(40);
            int[] of = new int[3];
            of[colour] = 20;
            x.dress(0, of[0], of[1], of[2]);
            x.dress(1, of[0], of[1], of[2]);
            turns(x, 3, NONE, 0);
            of[colour] = 21;
            x.dress(1, of[0], of[1], of[2]);
            turns(x, 3, 0, 0);
            turns(x, 2, NONE, 1);
            of[colour] = 41;
            x.dress(1, of[0], of[1], of[2]);
            turns(x, 2, 1, NONE);
            turns(x, 3, 0, 0);
        }
        ColourEcho of = new ColourEcho();
        of.limit(50);
        of.dress(0, 50, 0, 0);
        of.dress(1, 0, 50, 0);
        of.dress(2, 0, 0, 50);
        turns(of, 7, NONE, 0);
    }

    private static void turnsAtBothLimits() {
        ColourEcho x = new ColourEcho();
        x.limit(0);
        turns(x, 63, NONE, 0);
        x.dress(5, 0, 0, 1);
        turns(x, 32, 1, NONE);
        // Of six the other must show the last, of five who begins, and nobody shows F till then.
        turns(x, 63, 0, 0);
        turns(x, 62, 1, NONE);
        x.limit(999);
        x.wall(0, 1, 9);
        for (int dress = 0; dress < 6; dress++) {
            x.dress(dress, 99, 99, 99);
        }
        Due.show990(x, "r");
        turns(x, 63, NONE, 0);
        Due.live(x, ".");
        turns(x, 63, NONE, 0);
        // Of 891 that come off the wall 990 are SEEN by one dress, 999 by two.
        x.limit(998);
        turns(x, 63, 0, 0);
        x.limit(989);
        turns(x, 63, 1, NONE);
    }

    /** Past LIMIT already, he loses who shows the first. */
    private static void turnsPastTheLimit() {
        ColourEcho x = new ColourEcho();
        x.limit(10);
        Due.live(x, "b2");
        turns(x, 1, 1, NONE);
        turns(x, 63, 1, NONE);
        x.limit(20);
        turns(x, 63, NONE, 0);
    }

    /** "(that some were shown today already is no matter)", "besides what was shown". */
    private static void turnsWornAlready() {
        ColourEcho x = new ColourEcho();
        x.limit(59);
        x.dress(4, 30, 0, 0);
        turns(x, 16, NONE, 4);
        Due.live(x, "E");
        turns(x, 16, 1, NONE);
        x.limit(60);
        turns(x, 16, NONE, 4);
        due("nothing is shown in fact", 30, x.sees(0));
        due("nor worn", 16, x.told(6));
        Due.live(x, ".");
        x.limit(29);
        turns(x, 16, 1, NONE);
    }

    /** "the least DRESS by which who begins gets the best that he can". */
    private static void turnsTheLeastDress() {
        ColourEcho x = new ColourEcho();
        x.limit(50);
        x.dress(0, 51, 0, 0);
        turns(x, 3, 0, 1);
        turns(x, 33, 0, 5);
        turns(x, 7, 1, NONE);
        turns(x, 15, 0, 1);
        x.dress(0, 0, 11, 0);
        x.dress(1, 0, 11, 0);
        x.dress(2, 0, 40, 0);
        // By A or B first the other shows B or A, and who began is left with C; by C first either is too much.
        turns(x, 7, 0, 2);
        turns(x, 6, 0, 1);
        turns(x, 3, NONE, 0);
    }

    private static void turnsRefused() {
        ColourEcho x = new ColourEcho();
        due("set -1", UNKNOWN, x.turns(-1, 0));
        due("set 64", UNKNOWN, x.turns(64, 0));
        due("set first", UNKNOWN, x.turns(64, 2));
        due("what -1", OUTSIDE, x.turns(63, -1));
        due("what 2", OUTSIDE, x.turns(63, 2));
        due("of none too", OUTSIDE, x.turns(0, 2));
    }

    private static void year(String told, ColourEcho x, SlowGorge slow, int seed, int m) {
        int[] want = slow.year(seed, m);
        for (int what = 0; what < 3; what++) {
            due(told + " year " + seed + " of " + m + " what " + what, want[what], x.year(seed, m, what));
        }
    }

    /** x from 0: 74, of which 10 (74 by 7) of colour 2 are shown; from 9999: 750 thousand and a bit, left over by 65537. */
    private static void yearOfOneDay() {
        ColourEcho x = new ColourEcho();
        due("seed 0", 10, x.year(0, 1, 0));
        due("the most", 10, x.year(0, 1, 2));
        int drawn = (75 * 9999 + 74) % 65537;
        due("seed 9999", drawn / 7 % 100, x.year(9999, 1, 0));
        due("nothing is done in fact", 0, x.told(1) + x.sees(0) + x.sees(1) + x.sees(2));
        for (int seed = 0; seed <= 9999; seed++) {
            int much = (75 * seed + 74) % 65537 / 7 % 100;
            if (much == 0 || much == 99) {
                due("the least and the most that a day shows, by " + seed, much, new ColourEcho().year(seed, 1, 2));
            }
        }
        Due.live(x, "y9");
        due("today is none of its days", 10, x.year(0, 1, 2));
    }

    /** "seed (0 to 9999) of m days (1 to 60)". */
    private static void yearAtItsEnds() {
        for (int limit : new int[] {0, 50, 999}) {
            ColourEcho x = new ColourEcho();
            SlowGorge slow = new SlowGorge();
            for (int wall = 0; wall < 4; wall++) {
                x.wall(wall, 9 - wall, 4);
                slow.off[wall] = 9 - wall;
                slow.keeps[wall] = 4;
            }
            x.limit(limit);
            slow.limit = limit;
            for (int seed : new int[] {0, 1, 9998, 9999}) {
                for (int m : new int[] {1, 2, 59, 60}) {
                    year("limit " + limit, x, slow, seed, m);
                }
            }
        }
    }

    /** "(day 99 is no matter)". */
    private static void yearFromDay99() {
        ColourEcho x = new ColourEcho();
        SlowGorge slow = new SlowGorge();
        x.wall(0, 1, 5);
        slow.keeps[0] = 5;
        Due.pass(x, 99);
        Due.live(x, "r9");
        slow.act("r9");
        year("day 99", x, slow, 0, 1);
        year("day 99", x, slow, 9999, 60);
        due("day 99 stays", 99, x.told(1));
    }

    private static void yearFromTodaysFogAndSnow() {
        for (String sky : new String[] {"f", "s"}) {
            ColourEcho x = new ColourEcho();
            SlowGorge slow = new SlowGorge();
            x.wall(3, 4, 9);
            slow.keeps[3] = 9;
            Due.live(x, "b9..r5" + sky);
            for (String act : new String[] {"b9", ".", ".", "r5", sky}) {
                slow.act(act);
            }
            year(sky, x, slow, 7, 2);
            year(sky, x, slow, 7, 4);
        }
    }

    /** "on how many days more than LIMIT of some is". */
    private static void yearAtTheLimit() {
        ColourEcho x = new ColourEcho();
        x.limit(10);
        due("10 of 10", 0, x.year(0, 1, 1));
        x.limit(9);
        due("10 of 9", 1, x.year(0, 1, 1));
        x.limit(999);
        due("never", 0, x.year(0, 60, 1));
        x.limit(0);
        due("10, 3 and 93 of 0", 3, x.year(0, 3, 1));
    }

    private static void yearOutside() {
        ColourEcho x = new ColourEcho();
        int[][] wrong = {{-1, 1, 0}, {10000, 1, 0}, {0, 0, 0}, {0, -1, 0}, {0, 61, 0}, {0, 1, -1}, {0, 1, 3}};
        for (int[] with : wrong) {
            due("year " + java.util.Arrays.toString(with), OUTSIDE, x.year(with[0], with[1], with[2]));
        }
    }

    /** "STATE: it was not", behind OUTSIDE. */
    private static void imagesThatWereNotKept() {
        ColourEcho x = new ColourEcho();
        due("0", STATE, x.restore(0));
        due("1", STATE, x.restore(1));
        due("-1", OUTSIDE, x.restore(-1));
        due("2", OUTSIDE, x.restore(2));
        due("keep -1", OUTSIDE, x.image(-1));
        due("keep 2", OUTSIDE, x.image(2));
        due("still", STATE, x.restore(0));
        due("keep 0", 1, x.image(0));
        due("0", 1, x.restore(0));
        due("1 still not", STATE, x.restore(1));
        due("nor by a restore of 0", 1, x.image(1));
        due("1", 1, x.restore(1));
    }

    private static void imagesAreTwo() {
        ColourEcho x = new ColourEcho();
        x.limit(1);
        x.image(0);
        x.limit(2);
        x.image(1);
        x.limit(3);
        due("0", 1, x.restore(0));
        due("is", 1, x.told(2));
        due("1", 1, x.restore(1));
        due("is", 2, x.told(2));
        due("0 again", 1, x.restore(0));
        due("is", 1, x.told(2));
        x.limit(4);
        due("kept stays as it was", 1, x.restore(0));
        due("is", 1, x.told(2));
        x.limit(5);
        due("kept anew", 1, x.image(0));
        x.limit(6);
        x.restore(0);
        due("is", 5, x.told(2));
        x.restore(1);
        due("the other as before", 2, x.told(2));
    }

    /** "All but the PAD is kept in an IMAGE". */
    private static void imagesKeepAllButThePad() {
        ColourEcho x = new ColourEcho();
        x.wall(3, 9, 9);
        Due.live(x, "r9........");
        x.wall(0, 1, 1);
        x.dress(5, 1, 2, 3);
        for (int n = 0; n < 7; n++) {
            x.seen(8, 0);
        }
        x.seen(9, 81);
        Due.live(x, "Ffb4");
        Due.write(x, "r1");
        x.image(0);
        Due.write(x, ".fy9.");
        x.done();
        x.forget();
        for (int n = 0; n < 8; n++) {
            x.seen(0, 10 + n);
        }
        x.dress(5, 9, 9, 9);
        x.wall(3, 1, 0);
        x.wall(0, 5, 5);
        Due.write(x, "fsr");
        due("restored", 1, x.restore(0));
        due("the pad as it is", 3, x.told(0));
        due("with its fault", 3, x.fault());
        int[] want = {3, 8, 500, 8, 1, 0, 32};
        for (int what = 0; what < want.length; what++) {
            due("told " + what, want[what], x.told(what));
        }
        due("dress", 3, x.told(602));
        due("walls", 9, x.told(40));
        due("walls", 9, x.told(41));
        due("walls", 1, x.told(11));
        due("shown today", 43, x.sees(2));
        due("nine days ahead", 81, x.forecast(0, 1));
        due("sights", FULL, x.seen(0, 0));
        due("of which the last leaves one", 1, x.shown(-1));
        due("day 0, nine tens", 9, x.shown(0));
    }

    /** Each told number, and the ones beside it. */
    private static void toldAtItsEnds() {
        ColourEcho x = new ColourEcho();
        int[] outside = {Integer.MIN_VALUE, -600, -100, -11, -10, -1, 7, 8, 9, 12, 19, 22, 29, 32, 39, 42, 50, 51, 60, 99,
            103, 110, 199, 203, 299, 303, 399, 403, 499, 503, 599, 603, 610, 699, 700, 701, 1000, 1001, Integer.MAX_VALUE};
        for (int what : outside) {
            due("told " + what, OUTSIDE, x.told(what));
        }
        for (int wall = 0; wall < 4; wall++) {
            due("off", wall + 1, x.told(10 * (1 + wall)));
            due("keeps", 0, x.told(10 * (1 + wall) + 1));
        }
        for (int dress = 0; dress < 6; dress++) {
            x.dress(dress, 97, 98, 99);
            for (int colour = 0; colour < 3; colour++) {
                due("dress", 97 + colour, x.told(100 * (1 + dress) + colour));
            }
        }
        Due.live(x, "ABCDEFfs");
        due("fog", 1, x.told(4));
        due("snow", 1, x.told(5));
        due("all six", 63, x.told(6));
    }
}
