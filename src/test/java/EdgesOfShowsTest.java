/** The boundary cases of the document's section 3 and of promises 16 to 20: make, wish, whiten, apart, spoil. */
public final class EdgesOfShowsTest {
    private static final int NONE = -6, UNKNOWN = -1, OUTSIDE = -2;
    private static final int RED = 1000000, YELLOW = 1000;
    private static final Due DUE = new Due();

    public static void main(String[] args) {
        makeNothing();
        makeBy999();
        makeMoreThan999InAll();
        makeFarOff();
        makeInFogAndSnow();
        makeOutside();
        wishOfNobody();
        wishOfAll();
        wishAtItsEnds();
        wishTheLeastSet();
        wishWornAlready();
        wishMoreThan999();
        wishFarOff();
        wishRefused();
        whitenNone();
        whitenAll();
        whitenCanNot();
        whitenTheFewestThenTheLeast();
        whitenFromDTo60();
        whitenOutside();
        apartOfFew();
        apartOfAll();
        apartInAllColours();
        apartInAnEmptyGorge();
        emptyWhateverWasSeen();
        apartRefused();
        spoilToday();
        spoilAtItsEnds();
        spoilInAnEmptyGorge();
        spoilRefused();
        DUE.end();
    }

    private static void due(String call, long want, long got) {
        DUE.is(call, want, got);
    }

    private static void make(ColourEcho x, int[] call, int much, int seen) {
        String told = "make " + java.util.Arrays.toString(call);
        due(told, much, x.make(call[0], call[1], call[2], 0));
        due(told + " seen", seen, x.make(call[0], call[1], call[2], 1));
    }

    /** The least is 0 where enough is SEEN already. */
    private static void makeNothing() {
        ColourEcho x = new ColourEcho();
        make(x, new int[] {0, 0, 0}, 0, 0);
        make(x, new int[] {2, 60, 0}, 0, 0);
        x.wall(0, 1, 5);
        Due.live(x, "y8");
        make(x, new int[] {1, 0, 80}, 0, 80);
        make(x, new int[] {1, 0, 81}, 1, 81);
        make(x, new int[] {1, 1, 40}, 0, 40);
        make(x, new int[] {1, 1, 41}, 2, 41);
        make(x, new int[] {1, 1, 0}, 0, 40);
        due("nothing is shown in fact", 80, x.sees(1));
    }

    /** "(0 to 999 ..", "NONE: not by 999". */
    private static void makeBy999() {
        ColourEcho x = new ColourEcho();
        make(x, new int[] {0, 0, 999}, 999, 999);
        make(x, new int[] {0, 0, 998}, 998, 998);
        make(x, new int[] {0, 0, 1}, 1, 1);
        make(x, new int[] {0, 1, 1}, NONE, NONE);
        x.wall(2, 1, 9);
        make(x, new int[] {0, 1, 898}, 998, 898);
        make(x, new int[] {0, 1, 899}, 999, 899);
        make(x, new int[] {0, 1, 900}, NONE, NONE);
        make(x, new int[] {0, 1, 999}, NONE, NONE);
        x.wall(1, 1, 2);
        make(x, new int[] {0, 1, 999}, 909, 999);
    }

    /** "be it more than 999 in all". */
    private static void makeMoreThan999InAll() {
        ColourEcho x = new ColourEcho();
        x.wall(0, 1, 9);
        Due.show990(x, "b");
        make(x, new int[] {2, 0, 999}, 9, 999);
        make(x, new int[] {2, 1, 891}, 0, 891);
        make(x, new int[] {2, 1, 899}, 9, 899);
        make(x, new int[] {2, 1, 900}, NONE, NONE);
        due("judge would not let it", 1, judgeOf(x, "b1"));
    }

    private static int judgeOf(ColourEcho x, String text) {
        Due.write(x, text);
        return x.judge(1);
    }

    /** "d days from now (0 to 60)". */
    private static void makeFarOff() {
        ColourEcho x = new ColourEcho();
        x.wall(0, 1, 9);
        // Back from 1 by the least of which 9 tenths are enough: 2, 3, .. 10, 12, 14, .. 789, 877, 975, 1084.
        int least = 1;
        for (int d = 1; d <= 60; d++) {
            least = (10 * least + 8) / 9;
            boolean can = least <= 999;
            due("make 1 in " + d, can ? least : NONE, x.make(1, d, 1, 0));
            due("seen in " + d, can ? 1 : NONE, x.make(1, d, 1, 1));
        }
        due("49 days", 975, x.make(1, 49, 1, 0));
        x.wall(0, 6, 9);
        make(x, new int[] {1, 60, 1}, 12, 1);
        make(x, new int[] {1, 59, 1}, NONE, NONE);
    }

    private static void makeInFogAndSnow() {
        ColourEcho x = new ColourEcho();
        x.wall(0, 1, 5);
        x.wall(1, 2, 5);
        Due.live(x, "r8.");
        make(x, new int[] {0, 0, 40}, 0, 40);
        make(x, new int[] {0, 1, 60}, 0, 60);
        Due.live(x, "f");
        make(x, new int[] {0, 0, 40}, 40, 40);
        make(x, new int[] {0, 1, 60}, 40, 60);
        Due.live(x, "s");
        make(x, new int[] {0, 1, 60}, 120, 60);
    }

    private static void makeOutside() {
        ColourEcho x = new ColourEcho();
        int[][] wrong = {{-1, 0, 0, 0}, {3, 0, 0, 0}, {0, -1, 0, 0}, {0, 61, 0, 0}, {0, 0, -1, 0}, {0, 0, 1000, 0},
            {0, 0, 0, -1}, {0, 0, 0, 2}};
        for (int[] with : wrong) {
            due("make " + java.util.Arrays.toString(with), OUTSIDE, x.make(with[0], with[1], with[2], with[3]));
        }
    }

    private static void wish(ColourEcho x, int[] call, int difference, int set) {
        String told = "wish " + java.util.Arrays.toString(call);
        due(told, difference, x.wish(call[0], call[1], call[2], 0));
        due(told + " set", set, x.wish(call[0], call[1], call[2], 1));
    }

    private static void wishOfNobody() {
        ColourEcho x = new ColourEcho();
        x.dress(0, 50, 50, 50);
        wish(x, new int[] {0, 0, 0}, 0, 0);
        wish(x, new int[] {0, 60, 0}, 0, 0);
        wish(x, new int[] {0, 0, 50 * RED + 50 * YELLOW + 50}, 150, 0);
        wish(x, new int[] {1, 0, 50 * RED + 50 * YELLOW + 50}, 0, 1);
        wish(x, new int[] {62, 0, 50 * RED + 50 * YELLOW + 50}, 150, 0);
    }

    private static void wishOfAll() {
        ColourEcho x = new ColourEcho();
        for (int dress = 0; dress < 6; dress++) {
            x.dress(dress, 1 << dress, 0, 99);
        }
        wish(x, new int[] {63, 0, 63 * RED + 594}, 0, 63);
        wish(x, new int[] {63, 0, 32 * RED + 99}, 0, 32);
        wish(x, new int[] {31, 0, 31 * RED + 495}, 0, 31);
        wish(x, new int[] {31, 0, 63 * RED + 594}, 32 + 99, 31);
        wish(x, new int[] {33, 0, 33 * RED + 198}, 0, 33);
    }

    /** "told numbers of the three COLOURS (0 to 999 each; the three differences together)". */
    private static void wishAtItsEnds() {
        ColourEcho x = new ColourEcho();
        wish(x, new int[] {63, 0, 999999999}, 2997, 0);
        wish(x, new int[] {63, 0, 999000000}, 999, 0);
        wish(x, new int[] {63, 0, 999000}, 999, 0);
        wish(x, new int[] {63, 0, 999}, 999, 0);
        wish(x, new int[] {63, 0, 1002003}, 6, 0);
        Due.live(x, "r1y2b3");
        wish(x, new int[] {0, 0, 10 * RED + 20 * YELLOW + 30}, 0, 0);
        wish(x, new int[] {0, 0, 0}, 60, 0);
        wish(x, new int[] {0, 0, 11 * RED + 19 * YELLOW + 33}, 5, 0);
    }

    /** "the least such set as bits". */
    private static void wishTheLeastSet() {
        ColourEcho x = new ColourEcho();
        for (int dress = 0; dress < 6; dress++) {
            x.dress(dress, 10, 0, 0);
        }
        wish(x, new int[] {63, 0, 10 * RED}, 0, 1);
        wish(x, new int[] {62, 0, 10 * RED}, 0, 2);
        wish(x, new int[] {63, 0, 30 * RED}, 0, 7);
        wish(x, new int[] {56, 0, 20 * RED}, 0, 24);
        wish(x, new int[] {63, 0, 5 * RED}, 5, 0);
        wish(x, new int[] {63, 0, 15 * RED}, 5, 1);
        x.dress(0, 0, 0, 0);
        wish(x, new int[] {1, 0, 7 * RED}, 7, 0);
    }

    /** "(That some were shown today already is no matter.)". */
    private static void wishWornAlready() {
        ColourEcho x = new ColourEcho();
        x.dress(3, 0, 25, 0);
        Due.live(x, "D");
        wish(x, new int[] {8, 0, 50 * YELLOW}, 0, 8);
        wish(x, new int[] {8, 0, 25 * YELLOW}, 0, 0);
        due("nobody goes in fact", 25, x.sees(1));
    }

    private static void wishMoreThan999() {
        ColourEcho x = new ColourEcho();
        x.dress(0, 8, 0, 0);
        x.dress(1, 99, 0, 0);
        Due.show990(x, "r");
        wish(x, new int[] {1, 0, 999 * RED}, 1, 1);
        wish(x, new int[] {3, 0, 999 * RED}, 0, 2);
        wish(x, new int[] {2, 0, 990 * RED}, 0, 0);
        x.wall(0, 1, 9);
        wish(x, new int[] {2, 1, 899 * RED}, 0, 2);
    }

    private static void wishFarOff() {
        ColourEcho x = new ColourEcho();
        x.dress(5, 12, 0, 0);
        x.wall(0, 6, 9);
        wish(x, new int[] {63, 60, RED}, 0, 32);
        wish(x, new int[] {63, 59, RED}, 1, 0);
        wish(x, new int[] {31, 60, RED}, 1, 0);
    }

    /** "UNKNOWN: the set 0 to 63; OUTSIDE: the wish". */
    private static void wishRefused() {
        ColourEcho x = new ColourEcho();
        due("set -1", UNKNOWN, x.wish(-1, 0, 0, 0));
        due("set 64", UNKNOWN, x.wish(64, 0, 0, 0));
        due("set first", UNKNOWN, x.wish(64, 61, -1, 2));
        due("set first", UNKNOWN, x.wish(-1, -1, 1000000000, -1));
        due("days -1", OUTSIDE, x.wish(63, -1, 0, 0));
        due("days 61", OUTSIDE, x.wish(63, 61, 0, 0));
        due("wish -1", OUTSIDE, x.wish(63, 0, -1, 0));
        due("wish 1000000000", OUTSIDE, x.wish(63, 0, 1000000000, 0));
        due("what -1", OUTSIDE, x.wish(63, 0, 0, -1));
        due("what 2", OUTSIDE, x.wish(63, 0, 0, 2));
    }

    private static void whiten(ColourEcho x, int d, int v, int many, int which) {
        due("whiten " + d + " " + v, many, x.whiten(d, v, 0));
        due("whiten " + d + " " + v + " which", which, x.whiten(d, v, 1));
    }

    private static void whitenNone() {
        ColourEcho x = new ColourEcho();
        whiten(x, 0, 0, 0, 0);
        whiten(x, 60, 999, 0, 0);
        x.wall(0, 1, 9);
        x.wall(1, 1, 9);
        Due.show990(x, "r");
        whiten(x, 0, 999, 0, 0);
        whiten(x, 60, 999, 0, 0);
        Due.live(x, "s");
        whiten(x, 0, 999, 0, 0);
    }

    private static void whitenAll() {
        ColourEcho x = new ColourEcho();
        for (int wall = 0; wall < 4; wall++) {
            x.wall(wall, 1 + wall, 1);
        }
        Due.live(x, "y1");
        whiten(x, 1, 0, 4, 15);
        whiten(x, 2, 0, 3, 14);
        whiten(x, 3, 0, 2, 12);
        whiten(x, 4, 0, 1, 8);
        whiten(x, 5, 0, 0, 0);
        due("nothing is whitened", 1, x.told(41));
    }

    /** "NONE": what is shown today no window takes away. */
    private static void whitenCanNot() {
        for (int colour = 0; colour < 3; colour++) {
            ColourEcho x = new ColourEcho();
            x.wall(0, 1, 9);
            Due.live(x, "ryb".substring(colour, colour + 1) + "5");
            whiten(x, 0, 50, 0, 0);
            whiten(x, 0, 49, NONE, NONE);
            whiten(x, 0, 0, NONE, NONE);
            whiten(x, 1, 44, 1, 1);
            whiten(x, 1, 45, 0, 0);
            Due.live(x, ".");
            whiten(x, 0, 0, 1, 1);
        }
    }

    /** "how many; which, least as bits". */
    private static void whitenTheFewestThenTheLeast() {
        ColourEcho x = new ColourEcho();
        x.wall(0, 1, 3);
        x.wall(1, 1, 3);
        x.wall(3, 1, 9);
        Due.live(x, "r9");
        due("135 tomorrow", 135, x.forecast(0, 1));
        // Walls 0 and 1 white leave 81, wall 3 white leaves 54: the fewer of them, though greater as bits.
        whiten(x, 1, 85, 1, 8);
        whiten(x, 1, 54, 1, 8);
        whiten(x, 1, 53, 2, 9);
        whiten(x, 1, 0, 3, 11);
        x.wall(2, 1, 9);
        x.wall(0, 1, 0);
        x.wall(1, 1, 0);
        whiten(x, 1, 81, 1, 4);
    }

    /** "on each of the days d to 60 from now". */
    private static void whitenFromDTo60() {
        ColourEcho x = new ColourEcho();
        x.dress(0, 20, 0, 0);
        x.wall(2, 6, 9);
        Due.live(x, "A");
        // 20, 18, 16, 14, 12, 10, 9, 8, 7, 6 on day 54, 5 on day 60, 4 on day 66.
        whiten(x, 60, 5, 0, 0);
        whiten(x, 60, 4, 1, 4);
        whiten(x, 55, 4, 1, 4);
        whiten(x, 54, 5, 1, 4);
        whiten(x, 54, 6, 0, 0);
        whiten(x, 7, 16, 0, 0);
        whiten(x, 6, 17, 1, 4);
        Due.live(x, ".");
        whiten(x, 60, 0, 0, 0);
        whiten(x, 59, 0, 1, 4);
    }

    private static void whitenOutside() {
        ColourEcho x = new ColourEcho();
        int[][] wrong = {{-1, 0, 0}, {61, 0, 0}, {0, -1, 0}, {0, 1000, 0}, {0, 0, -1}, {0, 0, 2}};
        for (int[] with : wrong) {
            due("whiten " + java.util.Arrays.toString(with), OUTSIDE, x.whiten(with[0], with[1], with[2]));
        }
    }

    private static void apartOfFew() {
        ColourEcho x = new ColourEcho();
        due("none", 0, x.apart(0, 0, -1));
        due("none has no first", NONE, x.apart(0, 0, 0));
        for (int dress = 0; dress < 6; dress++) {
            due("one alone", 0, x.apart(1 << dress, 60, -1));
            due("no first", NONE, x.apart(1 << dress, 60, 0));
        }
        due("the first two", 1, x.apart(3, 0, -1));
        due("they", 1, x.apart(3, 0, 0));
        due("no second", NONE, x.apart(3, 0, 1));
        due("the last two", 45, x.apart(48, 0, 0));
        due("the ends", 5, x.apart(33, 0, 0));
    }

    /** "10 times the lesser and the greater; rising". */
    private static void apartOfAll() {
        ColourEcho x = new ColourEcho();
        int[] twos = {1, 2, 3, 4, 5, 12, 13, 14, 15, 23, 24, 25, 34, 35, 45};
        due("how many", 15, x.apart(63, 0, -1));
        for (int i = 0; i < twos.length; i++) {
            due("the " + i + "-th", twos[i], x.apart(63, 0, i));
        }
        due("the 15-th", NONE, x.apart(63, 0, 15));
        due("one far behind", NONE, x.apart(63, 0, Integer.MAX_VALUE));
        due("one ahead of how many", NONE, x.apart(63, 0, -2));
        due("one far ahead", NONE, x.apart(63, 0, Integer.MIN_VALUE));
    }

    /** "the same in all COLOURS". */
    private static void apartInAllColours() {
        ColourEcho x = new ColourEcho();
        x.dress(0, 10, 10, 10);
        x.dress(1, 20, 10, 10);
        x.dress(2, 10, 20, 10);
        x.dress(3, 10, 10, 20);
        x.dress(4, 10, 10, 10);
        due("A and E alone", 1, x.apart(31, 0, -1));
        due("they", 4, x.apart(31, 0, 0));
        x.wall(0, 1, 1);
        due("1 is not 2", 1, x.apart(31, 1, -1));
        due("nothing is nothing", 10, x.apart(31, 2, -1));
        x.wall(0, 6, 9);
        due("1 and 6 on day 54", 1, x.apart(31, 54, -1));
        due("0 and 5 on day 60", 1, x.apart(31, 60, -1));
        due("and are not on day 59", 10, x.apart(31, 59, -1));
    }

    /** "in the gorge as it is, else empty, with no FOG". */
    private static void apartInAnEmptyGorge() {
        ColourEcho x = new ColourEcho();
        x.dress(0, 10, 0, 0);
        x.dress(1, 19, 0, 0);
        x.dress(2, 20, 0, 0);
        x.wall(0, 1, 1);
        x.wall(1, 1, 9);
        Due.live(x, "w1");
        for (String text : new String[] {"", "f", "s", "r9A", ".r9f"}) {
            Due.live(x, text);
            due("A and B behind " + text, 1, x.apart(7, 1, -1));
            due("they", 1, x.apart(7, 1, 0));
        }
    }

    /** "else empty": what was SEEN on the nine days ahead in fact comes back in none of these. */
    private static void emptyWhateverWasSeen() {
        for (int off = 1; off <= 9; off++) {
            ColourEcho x = new ColourEcho();
            x.dress(0, 5, 0, 0);
            x.dress(1, 5, 0, 0);
            x.dress(2, 10, 0, 0);
            x.wall(0, off, 1);
            Due.live(x, "r9.r9.r9.r9.r9.r9.r9.r9.r9.r9");
            for (int d = 1; d <= 9; d++) {
                due("off " + off + ": much comes back in fact", d <= off ? 9 : 0, x.forecast(0, d));
                due("C is 1 on the day alone", d == off ? 1 : 3, x.apart(7, d, -1));
                due("5 and 5 are 10", d == off ? 3001 : 3000, x.spoil(0, 1, d));
            }
        }
    }

    private static void apartRefused() {
        ColourEcho x = new ColourEcho();
        due("set -1", UNKNOWN, x.apart(-1, 0, -1));
        due("set 64", UNKNOWN, x.apart(64, 0, -1));
        due("set first", UNKNOWN, x.apart(64, 61, -1));
        due("days -1", OUTSIDE, x.apart(63, -1, -1));
        due("days 61", OUTSIDE, x.apart(63, 61, -1));
        due("of none too", OUTSIDE, x.apart(0, 61, -2));
    }

    /** "(and 3000)": on the day itself nothing is lost or won. */
    private static void spoilToday() {
        ColourEcho x = new ColourEcho();
        due("nothing", 3000, x.spoil(0, 1, 0));
        due("nothing", 3000, x.spoil(4, 5, 60));
        x.dress(0, 99, 99, 99);
        x.dress(5, 99, 99, 99);
        due("198 are no more than 999", 3000, x.spoil(0, 5, 0));
        due("white walls", 3000, x.spoil(0, 5, 1));
    }

    private static void spoilAtItsEnds() {
        ColourEcho x = new ColourEcho();
        x.dress(0, 5, 5, 5);
        x.dress(5, 5, 5, 5);
        for (int wall = 0; wall < 4; wall++) {
            x.wall(wall, 1, 1);
        }
        due("1 more of each by each wall", 3012, x.spoil(0, 5, 1));
        due("either way round", 3012, x.spoil(5, 0, 1));
        x.wall(0, 6, 9);
        x.wall(1, 1, 0);
        x.wall(2, 1, 0);
        x.wall(3, 1, 0);
        // 10 lasts to day 54 and 5 not: 10, 9, .. 1; 5, 4, 3, 2, 1 on day 24.
        due("1 of each on day 54", 3003, x.spoil(0, 5, 54));
        due("nothing on day 60", 3000, x.spoil(0, 5, 60));
        x.wall(0, 1, 9);
        x.wall(1, 1, 9);
        x.dress(0, 99, 99, 99);
        x.dress(5, 99, 99, 99);
        due("999 less of each", 3, x.spoil(0, 5, 60));
    }

    private static void spoilInAnEmptyGorge() {
        ColourEcho x = new ColourEcho();
        x.dress(0, 5, 0, 0);
        x.dress(1, 5, 0, 0);
        x.wall(0, 1, 1);
        for (String text : new String[] {"", "r9", "f", "s", "A", "."}) {
            Due.live(x, text);
            due("1 more behind " + text, 3001, x.spoil(0, 1, 1));
        }
    }

    /** "UNKNOWN: both, also one; OUTSIDE". */
    private static void spoilRefused() {
        ColourEcho x = new ColourEcho();
        due("dress -1", UNKNOWN, x.spoil(-1, 0, 0));
        due("dress 6", UNKNOWN, x.spoil(6, 0, 0));
        due("other -1", UNKNOWN, x.spoil(0, -1, 0));
        due("other 6", UNKNOWN, x.spoil(0, 6, 0));
        for (int dress = 0; dress < 6; dress++) {
            due("one and the same", UNKNOWN, x.spoil(dress, dress, 0));
            due("ahead of outside", UNKNOWN, x.spoil(dress, dress, 61));
        }
        due("days -1", OUTSIDE, x.spoil(0, 5, -1));
        due("days 61", OUTSIDE, x.spoil(0, 5, 61));
    }
}
