/**
 * The document once more from its first line: the sentences that name no boundary, in the document's own order and
 * words, each with a case worked out by hand. The boundary cases stand in the Edges tests.
 */
public final class SentencesTest {
    private static final int NONE = -6, UNKNOWN = -1, OUTSIDE = -2, STATE = -3, FULL = -4, NO = -5;
    private static final long LOST = -1000000000000000000L;
    private static final Due DUE = new Due();

    public static void main(String[] args) {
        constants();
        theFirstThatFits();
        theyChangeNothing();
        lowestTerms();
        setsAreBits();
        colours();
        whatIsSeen();
        snowNeither();
        acts();
        faults();
        allIsSoThen();
        ofWhatWasShownSoFar();
        nothingMoreBeingShown();
        asForecast();
        makes();
        goOutBesidesOrNot();
        fewestWalls();
        echoesLater();
        allColoursTogether();
        allSightsAreSo();
        fewestAtTheMost();
        eachByItself();
        byTurns();
        ratherWin();
        aYearWithSnow();
        aYearWithFog();
        aYearIsNotDone();
        counts();
        asItWasWhenItWasKept();
        told();
        DUE.end();
    }

    private static void due(String call, long want, long got) {
        DUE.is(call, want, got);
    }

    /** Wall 0 a day off and wall 1 two days off, each of which keeps 5 tenths. */
    private static ColourEcho twoWalls() {
        ColourEcho x = new ColourEcho();
        x.wall(0, 1, 5);
        x.wall(1, 2, 5);
        return x;
    }

    /** "UNKNOWN -1", "OUTSIDE -2", "NO -5", "STATE -3", "FULL -4", and those of the face. */
    private static void constants() {
        due("UNKNOWN", UNKNOWN, ColourEcho.UNKNOWN);
        due("OUTSIDE", OUTSIDE, ColourEcho.OUTSIDE);
        due("NO", NO, ColourEcho.NO);
        due("STATE", STATE, ColourEcho.STATE);
        due("FULL", FULL, ColourEcho.FULL);
        due("NONE", NONE, ColourEcho.NONE);
        due("LOST", LOST, ColourEcho.LOST);
    }

    /** "the first of these that fits: UNKNOWN -1 (there is no such WALL, DRESS), OUTSIDE -2 (another number ..". */
    private static void theFirstThatFits() {
        ColourEcho x = new ColourEcho();
        due("no such wall, and outside", UNKNOWN, x.wall(4, 0, 10));
        due("no such dress, and outside", UNKNOWN, x.dress(6, 100, 100, 100));
        due("no such set, and outside", UNKNOWN, x.wish(64, 61, -1, 2));
        due("no such set, and outside", UNKNOWN, x.apart(64, 61, 0));
        due("no such set, and outside", UNKNOWN, x.turns(64, 2));
        due("no such dress, and outside", UNKNOWN, x.spoil(0, 6, 61));
        due("outside, and no image", OUTSIDE, x.restore(2));
        Due.write(x, "r");
        due("outside, and a fault", OUTSIDE, x.judge(2));
        due("outside, and a fault", OUTSIDE, x.behind(4));
        Due.write(x, "f".repeat(60));
        due("outside, and full", OUTSIDE, x.say(127));
        for (int n = 0; n < 8; n++) {
            x.seen(0, 0);
        }
        due("outside, and full", OUTSIDE, x.seen(61, 0));
        due("outside, and full", OUTSIDE, x.seen(0, 1000));
    }

    /** "They change nothing.": not even what they had right. */
    private static void theyChangeNothing() {
        ColourEcho x = new ColourEcho();
        x.wall(2, 3, 4);
        x.dress(1, 10, 20, 30);
        x.wall(2, 5, 10);
        due("off", 3, x.told(30));
        due("keeps", 4, x.told(31));
        x.dress(1, 11, 21, 100);
        due("red", 10, x.told(200));
        due("yellow", 20, x.told(201));
        Due.write(x, "Bf.w2w2");
        due("two white", NO, x.done());
        due("not worn", 0, x.told(6));
        due("no fog", 0, x.told(4));
        due("no day", 0, x.told(1));
        due("not white", 4, x.told(31));
    }

    /** "Fractions are told in lowest terms by part: 0 the upper, 1 the lower number". */
    private static void lowestTerms() {
        ColourEcho x = twoWalls();
        Due.live(x, "r8");
        long[][] want = {{1, 1}, {9, 10}, {4, 5}, {7, 10}, {3, 5}, {1, 2}, {2, 5}, {3, 10}, {1, 5}, {1, 10}, {0, 1}};
        for (int t = 0; t <= 10; t++) {
            due("upper by " + t, want[t][0], x.fogs(0, 1, t, 40, 0, 0));
            due("lower by " + t, want[t][1], x.fogs(0, 1, t, 40, 0, 1));
        }
        due("a mean of 40 by 7 tenths", 28, x.fogs(0, 1, 3, 0, 1, 0));
        due("which is whole", 1, x.fogs(0, 1, 3, 0, 1, 1));
        due("refused", LOST - 2, x.fogs(0, 1, 3, 0, 1, 2));
    }

    /** "Sets are bits." */
    private static void setsAreBits() {
        ColourEcho x = new ColourEcho();
        for (int dress = 0; dress < 6; dress++) {
            x.dress(dress, 1 << dress, 0, 0);
        }
        for (int set = 0; set < 64; set++) {
            due("set " + set, set, x.wish(63, 0, 1000000 * set, 1));
        }
        Due.live(x, "ACF");
        due("A, C and F", 37, x.told(6));
        due("of A, C and F no two", 0, x.apart(37, 0, -1));
        x.dress(5, 4, 0, 0);
        due("but C and F", 25, x.apart(37, 0, 0));
        due("of A and F none", 0, x.apart(33, 0, -1));
    }

    /** "COLOURS 0 red, 1 yellow, 2 blue." */
    private static void colours() {
        ColourEcho x = new ColourEcho();
        x.dress(0, 1, 2, 3);
        Due.live(x, "r1y2b3A");
        int[] want = {11, 22, 33};
        for (int colour = 0; colour < 3; colour++) {
            due("sees", want[colour], x.sees(colour));
            due("behind", want[colour], x.behind(colour));
            due("forecast", want[colour], x.forecast(colour, 0));
            due("make", 100 - want[colour], x.make(colour, 0, 100, 0));
            due("fogs", want[colour], x.fogs(colour, 0, 0, 0, 1, 0));
            due("dress", colour + 1, x.told(100 + colour));
        }
        due("hue", 2, x.hue(0));
        due("wish", 0, x.wish(0, 0, 11022033, 0));
    }

    /** "what is shown on it, and of each WALL .. of what was SEEN of it as many days ahead as the WALL is OFF". */
    private static void whatIsSeen() {
        ColourEcho x = new ColourEcho();
        x.wall(0, 1, 1);
        x.wall(1, 2, 2);
        x.wall(2, 3, 3);
        x.wall(3, 5, 5);
        // 90; 9; 0 and 18; 1, 1 and 27; 2, 3 and 2; 0, 5, 5 and 45, off the walls 0, 1, 2 and 3.
        int[] want = {90, 9, 18, 29, 7, 55};
        Due.live(x, "b9");
        for (int day = 0; day < want.length; day++) {
            due("day " + day, want[day], x.sees(2));
            due("of no other colour", 0, x.sees(0) + x.sees(1));
            Due.live(x, ".");
        }
        due("day 6: 5, 1, 8 and 4", 18, x.sees(2));
        Due.live(x, "b1");
        due("and what is shown on it", 28, x.sees(2));
    }

    /** "On a day of SNOW neither": nothing comes off walls, but what is shown is seen. */
    private static void snowNeither() {
        ColourEcho x = twoWalls();
        Due.live(x, "r8.y4.s");
        due("no red", 0, x.sees(0));
        due("no yellow", 0, x.sees(1));
        Due.live(x, "b2");
        due("blue that is shown", 20, x.sees(2));
        Due.live(x, ".");
        due("red of two days ahead and more", 0, x.sees(0));
        due("yellow of two days ahead", 0, x.sees(1));
        due("blue of the day of snow", 10, x.sees(2));
    }

    /** "a DRESS's letter (it is shown today ..", "f (FOG is today, or is not any more), s (SNOW, likewise)". */
    private static void acts() {
        ColourEcho x = twoWalls();
        x.dress(3, 4, 5, 6);
        due("a dress", 1, Due.live(x, "D"));
        due("is shown", 5, x.sees(1));
        due("and worn", 8, x.told(6));
        due("fog", 1, Due.live(x, "f"));
        due("is", 1, x.told(4));
        due("no fog", 1, Due.live(x, "f"));
        due("is not any more", 0, x.told(4));
        due("thrice", 3, Due.live(x, "fff"));
        due("is", 1, x.told(4));
        due("snow", 1, Due.live(x, "s"));
        due("is", 1, x.told(5));
        due("no snow", 1, Due.live(x, "s"));
        due("is not any more", 0, x.told(5));
        due("fog is still", 1, x.told(4));
        due("white", 1, Due.live(x, "w1"));
        due("keeps", 0, x.told(21));
        due("as far off as it was", 2, x.told(20));
        due("the next day", 1, Due.live(x, "."));
        due("is day 1", 1, x.told(1));
        due("nobody is out", 0, x.told(6));
        due("no fog yet", 0, x.told(4));
        due("half of 5", 2, x.sees(1));
    }

    /** "the place (from 0 on) of the first sign that can not stand there". */
    private static void faults() {
        String[] texts = {"r1", "r12", "1", "r1.y", "w3w", "w9", "r", "R1", "ABCDEFG", "f,s", "y5b5r5z", "bb", ".w0.w1.W"};
        int[] want = {NONE, 2, 0, 4, 3, 1, 1, 0, 6, 1, 6, 1, 7};
        for (int i = 0; i < texts.length; i++) {
            ColourEcho x = new ColourEcho();
            Due.write(x, texts[i]);
            due("fault of " + texts[i], want[i], x.fault());
            due("judge of " + texts[i], want[i] == NONE ? NONE : NO, x.judge(0));
            due("done of " + texts[i], want[i] == NONE ? 1 : NO, x.done());
        }
    }

    /** "DONE: all is so then." */
    private static void allIsSoThen() {
        ColourEcho x = twoWalls();
        x.dress(0, 8, 0, 0);
        x.dress(1, 0, 0, 50);
        due("acts", 10, Due.live(x, "r9A.b1B.Afsw0"));
        int[] want = {0, 2, 500, 0, 1, 1, 1};
        for (int what = 0; what < want.length; what++) {
            due("told " + what, want[what], x.told(what));
        }
        due("wall 0 is white", 0, x.told(11));
        due("wall 1 is not", 5, x.told(21));
        due("red today", 8, x.sees(0));
        due("no blue for the snow", 0, x.sees(2));
        Due.live(x, "sf");
        due("98 two days ahead, and 8", 57, x.sees(0));
        Due.live(x, ".");
        due("49 a day ahead, of which half, two days ahead", 24, x.sees(0));
        due("60 two days ahead", 30, x.sees(2));
    }

    /** "what is SEEN of a COLOUR today (of what was shown so far); the day (3)". */
    private static void ofWhatWasShownSoFar() {
        ColourEcho x = twoWalls();
        String text = "r4r4.y6.b2";
        int[][] want = {{0, 0, 0, 0}, {40, 0, 0, 0}, {80, 0, 0, 0}, {40, 0, 0, 1}, {40, 60, 0, 1}, {60, 30, 0, 2}, {60, 30, 20, 2}};
        int row = 0;
        for (int i = 0; i <= text.length(); i++) {
            if (x.fault() == NONE) {
                for (int what = 0; what < 4; what++) {
                    due("behind " + i + " signs", want[row][what], x.behind(what));
                }
                row++;
            }
            if (i < text.length()) {
                x.say(text.charAt(i));
            }
        }
        due("every act", want.length, row);
        due("and nothing is so", 0, x.sees(0) + x.sees(1) + x.sees(2) + x.told(1));
    }

    /** "what is SEEN of a COLOUR d days from now .., nothing more being shown"; the pad is no matter. */
    private static void nothingMoreBeingShown() {
        ColourEcho x = twoWalls();
        Due.live(x, "y8");
        // 80; 40; 20 and 40; 30 and 20; 25 and 30; 27 and 25.
        int[] want = {80, 40, 60, 50, 55, 52};
        Due.write(x, "y9.f");
        for (int d = 0; d < want.length; d++) {
            due("in " + d, want[d], x.forecast(1, d));
            due("hue in " + d, 1, x.hue(d));
        }
        due("sees", 80, x.sees(1));
        due("never gone", NONE, x.gone());
        x.wipe();
        Due.live(x, "w1");
        due("80, 40, 20, 10, 5, 2, 1 and nothing", 7, x.gone());
        due("hue of nothing", NONE, x.hue(7));
    }

    /** "(As FORECAST.)": of make, wish and whiten, today's fog and snow are so, and those of no later day. */
    private static void asForecast() {
        String[] skies = {"", "f", "s"};
        // Today a half of 80 comes off wall 0 but in fog and snow; tomorrow a half of today's, and of 80 but over snow.
        int[] today = {40, 0, 0};
        int[] tomorrow = {20 + 40, 40, 0};
        for (int sky = 0; sky < skies.length; sky++) {
            ColourEcho x = twoWalls();
            x.dress(0, 10, 0, 0);
            Due.live(x, "r8." + skies[sky]);
            String told = "sky " + skies[sky];
            due(told + " make today", 100 - today[sky], x.make(0, 0, 100, 0));
            due(told + " make tomorrow", 2 * (100 - tomorrow[sky]), x.make(0, 1, 100, 0));
            due(told + " wish today", 100 - today[sky] - 10, x.wish(1, 0, 100000000, 0));
            due(told + " wish tomorrow", 100 - tomorrow[sky] - 5, x.wish(1, 1, 100000000, 0));
            due(told + " whiten", tomorrow[sky] == 0 ? 0 : sky == 1 ? 1 : 2, x.whiten(0, 0, 0));
            due(told + " which", tomorrow[sky] == 0 ? 0 : sky == 1 ? 2 : 3, x.whiten(0, 0, 1));
        }
    }

    /** "the least that must be shown more today of a COLOUR .. so that .. at least v .. are SEEN of it", "and what is SEEN then". */
    private static void makes() {
        ColourEcho x = twoWalls();
        Due.live(x, "r8.");
        due("40 now", 40, x.sees(0));
        // Tomorrow 40 come off wall 1, and half of today's.
        due("for 63", 6, x.make(0, 1, 63, 0));
        due("are 63", 63, x.make(0, 1, 63, 1));
        due("for 60 none", 0, x.make(0, 1, 60, 0));
        due("for 1 none, too", 0, x.make(0, 1, 1, 0));
        due("are 60", 60, x.make(0, 1, 1, 1));
        // In two days a half of tomorrow's and a half of today's: 30 and 20; by 1 more 30 and 20, by 2 30 and 21.
        due("for 51", 2, x.make(0, 2, 51, 0));
        due("are 51", 51, x.make(0, 2, 51, 1));
        due("by 4 both are more", 53, x.make(0, 2, 52, 1));
        due("for 52", 4, x.make(0, 2, 52, 0));
        due("of another colour", 104, x.make(1, 1, 52, 0));
        due("nothing was shown", 40, x.sees(0));
    }

    /** "DRESSES of a set go out today besides, or not: those by which what is SEEN d days from now is nearest". */
    private static void goOutBesidesOrNot() {
        ColourEcho x = twoWalls();
        x.dress(0, 30, 0, 0);
        x.dress(1, 0, 30, 0);
        x.dress(2, 30, 30, 0);
        Due.live(x, "r2");
        due("50 red", 1, x.wish(7, 0, 50000000, 1));
        due("by A", 0, x.wish(7, 0, 50000000, 0));
        due("50 and 30: A and B, ahead of C", 3, x.wish(7, 0, 50030000, 1));
        due("80 and 60: all", 7, x.wish(7, 0, 80060000, 1));
        due("20: nobody", 0, x.wish(7, 0, 20000000, 1));
        due("tomorrow 25", 1, x.wish(7, 1, 25000000, 1));
        due("tomorrow 24 and 16: A and B", 3, x.wish(7, 1, 24016000, 1));
        due("but for 2", 2, x.wish(7, 1, 24016000, 0));
        due("of B alone", 2, x.wish(2, 1, 24016000, 1));
        due("10 and 15", 15, x.wish(2, 1, 24016000, 0));
        due("of A and C: C", 4, x.wish(5, 1, 24016000, 1));
        due("25 and 15", 2, x.wish(5, 1, 24016000, 0));
    }

    /** "the fewest WALLS whitened now by which .. no more than v of any COLOUR are SEEN". */
    private static void fewestWalls() {
        ColourEcho x = new ColourEcho();
        x.wall(0, 1, 3);
        x.wall(1, 1, 4);
        x.wall(2, 2, 2);
        Due.live(x, "r5y9");
        // Tomorrow 27 and 36 yellow; in two days 18 more.
        due("63 tomorrow, 62 then", 0, x.whiten(1, 63, 0));
        due("62: one", 1, x.whiten(1, 62, 0));
        due("wall 0", 1, x.whiten(1, 62, 1));
        due("35: wall 1, 27 tomorrow and 26 then", 2, x.whiten(1, 35, 1));
        due("one", 1, x.whiten(1, 35, 0));
        due("26: two", 2, x.whiten(1, 26, 0));
        due("walls 0 and 1, and 18 are left", 3, x.whiten(1, 26, 1));
        due("17: all three", 7, x.whiten(1, 17, 1));
        due("three", 3, x.whiten(1, 17, 0));
        due("89 on all days: no", NONE, x.whiten(0, 89, 0));
        due("which: none", NONE, x.whiten(0, 89, 1));
        due("no wall is white", 3, x.told(11));
    }

    /** "each DRESS of a set alone being shown on a day .. twos of them whose echoes d days later are the same". */
    private static void echoesLater() {
        ColourEcho x = twoWalls();
        int[] red = {20, 21, 22, 23, 24, 25};
        for (int dress = 0; dress < 6; dress++) {
            x.dress(dress, red[dress], 0, 0);
        }
        due("on the day each is told", 0, x.apart(63, 0, -1));
        // 10, 10, 11, 11, 12, 12.
        due("the next day", 3, x.apart(63, 1, -1));
        int[] twos = {1, 23, 45, NONE};
        for (int i = 0; i < twos.length; i++) {
            due("two " + i, twos[i], x.apart(63, 1, i));
        }
        // 5 and 10, 5 and 10, 5 and 11, 5 and 11, 6 and 12, 6 and 12.
        due("the day behind it too", 3, x.apart(63, 2, -1));
        // Day 3, of 10 and 15, 11 and 16, 12 and 18: 7 and 5, 8 and 5, 9 and 6.
        due("and the third", 3, x.apart(63, 3, -1));
        // Day 4, of 15 and 12, 16 and 13, 18 and 15: 6 and 7, 6 and 8, 7 and 9.
        due("and the fourth", 3, x.apart(63, 4, -1));
        due("A, C and E", 0, x.apart(21, 4, -1));
        x.wall(0, 1, 1);
        x.wall(1, 2, 0);
        due("2 of each", 15, x.apart(63, 1, -1));
    }

    /** "by how much more is SEEN d days later of all COLOURS together .. than of the one and the other alone, added up". */
    private static void allColoursTogether() {
        ColourEcho x = twoWalls();
        x.dress(0, 5, 15, 25);
        x.dress(1, 5, 15, 26);
        x.dress(2, 4, 14, 24);
        due("on the day", 3000, x.spoil(0, 1, 0));
        // 5 of 10 against 2 and 2, 15 of 30 against 7 and 7, 25 of 51 against 12 and 13.
        due("the next day", 3002, x.spoil(0, 1, 1));
        due("the one and the other", 3002, x.spoil(1, 0, 1));
        due("halves of even ones", 3000, x.spoil(0, 2, 1));
        // By four walls a day off everything grows to 999, of two dresses as of one.
        for (int wall = 0; wall < 4; wall++) {
            x.wall(wall, 1, 9);
        }
        due("999 against 999 and 999, of three colours", 3000 - 3 * 999, x.spoil(0, 1, 40));
    }

    /** "of a COLOUR that was shown once ..", "days and tens by which all SIGHTS are so: how many". */
    private static void allSightsAreSo() {
        ColourEcho x = twoWalls();
        x.seen(5, 40);
        // 40 on the day itself, a half of 80 the next day, and of 60 four days on: 60, 30, 45, 37, 18 and 22.
        int[] codes = {16, 48, 54, NONE};
        for (int i = 0; i < codes.length; i++) {
            due("shown " + i, codes[i], x.shown(i));
        }
        due("how many", 3, x.shown(-1));
        x.seen(6, 20);
        due("54 is left", 54, x.shown(0));
        due("alone", 1, x.shown(-1));
        x.seen(7, 30);
        due("20 and 10 more", 1, x.shown(-1));
        x.seen(7, 31);
        due("not both", 0, x.shown(-1));
        due("none", NONE, x.shown(0));
        due("forgotten", 4, x.forget());
        due("all", 90, x.shown(-1));
    }

    /** "so that, whatever is SEEN, fewest are left at the most: the least; how many". */
    private static void fewestAtTheMost() {
        ColourEcho x = new ColourEcho();
        x.seen(9, 10);
        // Without walls it is one ten on day 9.
        due("one", 1, x.shown(-1));
        due("any day will do", 0, x.look(0));
        due("one is left", 1, x.look(1));
        x.forget();
        for (int day = 0; day < 8; day++) {
            x.seen(day, 0);
        }
        // Days 8 and 9, nine tens each: either day tells nine apart, and leaves the other nine.
        due("eighteen", 18, x.shown(-1));
        due("day 8", 8, x.look(0));
        due("leaves nine", 9, x.look(1));
        x.wall(0, 1, 9);
        // On day 9 those of day 9 are 10, 20, .. 90, and those of day 8 come back as 9, 18, .. 81.
        due("day 9", 9, x.look(0));
        due("leaves one", 1, x.look(1));
    }

    /** "each by itself: that at least v of a COLOUR are SEEN on the last of them; the mean". */
    private static void eachByItself() {
        ColourEcho x = twoWalls();
        Due.live(x, "r8");
        // Two days: clear and clear 20 and 40, fog and clear 40, else nothing.
        due("60 by 6 and 6 tenths", 9, x.fogs(0, 2, 4, 60, 0, 0));
        due("of 25", 25, x.fogs(0, 2, 4, 60, 0, 1));
        due("40 by 6 tenths", 3, x.fogs(0, 2, 4, 40, 0, 0));
        due("of 5", 5, x.fogs(0, 2, 4, 40, 0, 1));
        due("61: never", 0, x.fogs(0, 2, 4, 61, 0, 0));
        due("of 1", 1, x.fogs(0, 2, 4, 61, 0, 1));
        // 36 by 60 and 24 by 40, of a hundred: 2160 and 960.
        due("the mean", 156, x.fogs(0, 2, 4, 0, 1, 0));
        due("of 5", 5, x.fogs(0, 2, 4, 0, 1, 1));
        due("yellow", 0, x.fogs(1, 2, 4, 0, 1, 0));
    }

    /** "he has lost by whose DRESS more than LIMIT of some COLOUR is SEEN today": of walls, too. */
    private static void byTurns() {
        ColourEcho x = twoWalls();
        x.limit(50);
        x.dress(0, 5, 0, 0);
        x.dress(1, 10, 0, 0);
        x.dress(2, 15, 0, 0);
        Due.live(x, "r8.");
        due("40 are seen", 40, x.sees(0));
        due("5 and 10: the second loses", 0, x.turns(3, 0));
        due("by A", 0, x.turns(3, 1));
        due("15 first loses, so B, and then all do", 0, x.turns(6, 0));
        due("by B", 1, x.turns(6, 1));
        due("of all by A or B, and the other has lost", 0, x.turns(7, 0));
        due("A", 0, x.turns(7, 1));
        due("C alone has lost", 1, x.turns(4, 0));
        due("no dress helps", NONE, x.turns(4, 1));
        Due.live(x, "f");
        due("in fog 30 of 50", NONE, x.turns(7, 0));
        due("so the least", 0, x.turns(7, 1));
    }

    /**
     * "Each would rather win than that nobody loses, and rather that than lose". What is SEEN only grows by a dress, so
     * whether somebody loses is the whole set's matter: NONE, if all of it is no more than LIMIT, and else he wins who can.
     */
    private static void ratherWin() {
        ColourEcho x = new ColourEcho();
        int[] red = {7, 11, 13, 17, 19, 23};
        for (int dress = 0; dress < 6; dress++) {
            x.dress(dress, red[dress], 0, 0);
        }
        x.limit(42);
        for (int set = 1; set < 64; set++) {
            boolean[] wins = new boolean[64];
            for (int left = 1; left <= set; left++) {
                for (int dress = 0; dress < 6; dress++) {
                    int rest = left & ~(1 << dress);
                    boolean may = (left & ~set) == 0 && rest != left && redOf(red, set & ~rest) <= 42;
                    wins[left] |= may && !wins[rest];
                }
            }
            boolean over = redOf(red, set) > 42;
            due("who wins of " + set, !over ? NONE : wins[set] ? 0 : 1, x.turns(set, 0));
            due("has he a dress, of " + set, !over || wins[set] ? 1 : 0, x.turns(set, 1) == NONE ? 0 : 1);
        }
    }

    private static int redOf(int[] red, int set) {
        int sum = 0;
        for (int dress = 0; dress < 6; dress++) {
            sum += (set >> dress & 1) * red[dress];
        }
        return sum;
    }

    private static void year(ColourEcho x, int seed, int m, int[] want) {
        for (int what = 0; what < 3; what++) {
            due("year " + seed + " of " + m + " what " + what, want[what], x.year(seed, m, what));
        }
    }

    /** "x becomes (75 x and 74) left over by 65537 .. SNOW, if by 31 as 0". */
    private static void aYearWithSnow() {
        ColourEcho x = twoWalls();
        x.limit(40);
        // x from 96: 7274 (39 blue), 21328 (688 times 31: snow, 46 yellow), 26786 (26 blue), 42914 (30 blue).
        year(x, 96, 1, new int[] {39, 0, 39});
        year(x, 96, 2, new int[] {46, 1, 46});
        year(x, 96, 3, new int[] {26 + 23, 1, 46});
        year(x, 96, 4, new int[] {30 + 13 + 11 + 23, 2, 46});
    }

    /** "FOG is, if x is left over by 7 as 0". */
    private static void aYearWithFog() {
        ColourEcho x = twoWalls();
        x.limit(60);
        // x from 14: 1124 (60 blue), 18837 (2691 times 7: fog, 91 red), 36572 (24 blue), 55957 (93 yellow).
        year(x, 14, 1, new int[] {60, 0, 60});
        year(x, 14, 2, new int[] {91, 1, 91});
        year(x, 14, 3, new int[] {45 + 24 + 30, 1, 91});
        year(x, 14, 4, new int[] {22 + 45 + 93 + 27, 2, 93});
    }

    /** "Nothing is DONE in fact.", "from all as it is": today's sky and what was shown count, the pad does not. */
    private static void aYearIsNotDone() {
        ColourEcho x = twoWalls();
        Due.live(x, "b8.b2f");
        Due.write(x, "r9.");
        // From 0 10 more blue on the first day; 10 come of today's 20, and 40 of yesterday's 80.
        due("over the fog", 10 + 10 + 40, x.year(0, 1, 0));
        due("the day", 1, x.told(1));
        due("fog", 1, x.told(4));
        due("signs", 3, x.told(0));
        due("seen", 20, x.sees(2));
        x.wipe();
        Due.live(x, "s");
        due("over the snow", 10 + 10, x.year(0, 1, 0));
    }

    /** "A sign more: how many.", "Signs go: how many there were.", "A SIGHT more: how many.", "SIGHTS go: how many there were." */
    private static void counts() {
        ColourEcho x = new ColourEcho();
        due("a sign", 1, x.say('r'));
        due("another", 2, x.say('1'));
        due("go", 2, x.wipe());
        due("are gone", 0, x.wipe());
        due("anew", 1, x.say('.'));
        due("a sight", 1, x.seen(3, 0));
        due("the same once more", 2, x.seen(3, 0));
        due("told", 2, x.told(3));
        due("go", 2, x.forget());
        due("are gone", 0, x.forget());
        due("anew", 1, x.seen(60, 999));
        due("limit: which it was", 500, x.limit(7));
        due("limit: which it was", 7, x.limit(500));
        due("the pad is as it was", 1, x.told(0));
    }

    /** "It is as it was when it was kept: 1." */
    private static void asItWasWhenItWasKept() {
        ColourEcho x = twoWalls();
        Due.live(x, "r8.");
        x.seen(2, 20);
        due("kept", 1, x.image(1));
        due("not this one", STATE, x.restore(0));
        Due.live(x, "r9s.w0");
        x.limit(1);
        x.forget();
        due("restored", 1, x.restore(1));
        due("day", 1, x.told(1));
        due("limit", 500, x.told(2));
        due("sights", 1, x.told(3));
        due("wall", 5, x.told(11));
        due("seen", 40, x.sees(0));
        due("tomorrow", 60, x.forecast(0, 1));
        due("an image of it", 1, x.image(0));
        due("both are alike", 1, x.restore(0));
        due("seen", 40, x.sees(0));
    }

    /** "0 signs, 1 the day, 2 LIMIT, 3 SIGHTS, 4 FOG, 5 SNOW today (1, 0), 6 DRESSES shown today (bits)". */
    private static void told() {
        ColourEcho x = new ColourEcho();
        x.limit(321);
        x.seen(1, 1);
        x.seen(2, 2);
        x.seen(3, 3);
        Due.live(x, "...BEs");
        Due.write(x, "rybw!");
        int[] want = {5, 3, 321, 3, 0, 1, 18};
        for (int what = 0; what < want.length; what++) {
            due("told " + what, want[what], x.told(what));
        }
        x.wall(3, 7, 6);
        x.dress(5, 40, 50, 60);
        due("wall 3 off", 7, x.told(40));
        due("wall 3 keeps", 6, x.told(41));
        due("dress 5 red", 40, x.told(600));
        due("dress 5 yellow", 50, x.told(601));
        due("dress 5 blue", 60, x.told(602));
        due("no 7", OUTSIDE, x.told(7));
    }
}
