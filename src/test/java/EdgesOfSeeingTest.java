/** The boundary cases of the document's section 2 and of promises 8 to 15: judged, done, behind, broken, what is seen. */
public final class EdgesOfSeeingTest {
    private static final int NONE = -6, OUTSIDE = -2, NO = -5;
    private static final Due DUE = new Due();

    public static void main(String[] args) {
        shown999CanBe();
        shown1000CanNot();
        judgedAnew();
        shownIsNotSeen();
        aNewDayShowsAnew();
        wornOnceADay();
        whiteAlready();
        day99();
        theLeastOfTheReasons();
        theFirstActThatCanNotBe();
        actsOfAFullPad();
        judgedOutside();
        doneEmptiesThePad();
        doneThatCanNotBe();
        behindIsNotDone();
        behindOfNothing();
        limitIsNotMoreThanLimit();
        limitOfNothing();
        limitOfAll();
        brokenAsADayEnds();
        brokenAsTheLastDayIs();
        brokenIsCountedFromToday();
        seesItsColours();
        forecastAtItsEnds();
        forecastWithTodaysFogAndSnow();
        forecastPastDay99();
        goneAtItsEnds();
        goneLooksNoFartherThan60();
        hueAtItsEnds();
        DUE.end();
    }

    private static void due(String call, long want, long got) {
        DUE.is(call, want, got);
    }

    private static void judged(String text, int act, int why, ColourEcho x) {
        Due.write(x, text);
        due("act of " + text, act, x.judge(0));
        due("why of " + text, why, x.judge(1));
        due("no fault in " + text, NONE, x.fault());
    }

    /** A gorge with 990 of each colour shown today, and a dress that adds so much of each. */
    private static ColourEcho nearlyFull(int red, int yellow, int blue) {
        ColourEcho x = new ColourEcho();
        x.dress(0, red, yellow, blue);
        Due.show990(x, "r");
        Due.show990(x, "y");
        Due.show990(x, "b");
        return x;
    }

    /** "1 more than 999 of a COLOUR would be shown today": 999 would not. */
    private static void shown999CanBe() {
        ColourEcho x = nearlyFull(9, 9, 9);
        judged("A", NONE, NONE, x);
        due("done", 1, x.done());
        due("999 shown", 999, x.sees(0));
        due("999 shown", 999, x.sees(2));
        judged("B", NONE, NONE, x);
        due("a dress of nothing", 1, x.done());
        for (String letter : new String[] {"r", "y", "b"}) {
            ColourEcho tens = new ColourEcho();
            tens.dress(0, 9, 9, 9);
            judged("A" + (letter + "9").repeat(11), NONE, NONE, tens);
            judged("A" + (letter + "9").repeat(11) + letter + "1", 12, 1, tens);
        }
    }

    private static void shown1000CanNot() {
        judged("A", 0, 1, nearlyFull(10, 0, 0));
        judged("A", 0, 1, nearlyFull(0, 10, 0));
        judged("A", 0, 1, nearlyFull(0, 0, 10));
        ColourEcho x = nearlyFull(0, 0, 0);
        judged("r1", 0, 1, x);
        judged("y1", 0, 1, x);
        judged("b1", 0, 1, x);
        judged("Ab1", 1, 1, x);
        ColourEcho text = new ColourEcho();
        judged("r9".repeat(11), NONE, NONE, text);
        judged("r9".repeat(12), 11, 1, text);
        judged("y9".repeat(11) + "r9", NONE, NONE, text);
    }

    /** What an earlier text could not be is no matter to the next, an empty one too. */
    private static void judgedAnew() {
        ColourEcho x = new ColourEcho();
        x.limit(0);
        judged("r1.AA", 3, 2, x);
        due("broken", NO, x.broken());
        judged("", NONE, NONE, x);
        due("broken", NONE, x.broken());
        due("behind", 0, x.behind(3));
        due("done", 0, x.done());
        judged("r1.", NONE, NONE, x);
        due("broken", 0, x.broken());
        judged("", NONE, NONE, x);
        due("broken", NONE, x.broken());
    }

    private static void shownIsNotSeen() {
        ColourEcho x = new ColourEcho();
        x.wall(0, 1, 9);
        x.wall(1, 1, 9);
        Due.show990(x, "r");
        Due.live(x, ".");
        due("999 are seen", 999, x.sees(0));
        judged("r9".repeat(11), NONE, NONE, x);
        judged("r9".repeat(11) + "r1", 11, 1, x);
    }

    private static void aNewDayShowsAnew() {
        ColourEcho x = nearlyFull(10, 10, 10);
        judged(".A", NONE, NONE, x);
        judged("." + "b9".repeat(11), NONE, NONE, x);
        judged(".A" + "b9".repeat(11), 12, 1, x);
    }

    /** "2 the DRESS was shown today". */
    private static void wornOnceADay() {
        ColourEcho x = new ColourEcho();
        judged("ABCDEF", NONE, NONE, x);
        judged("ABCDEFF", 6, 2, x);
        judged("AA", 1, 2, x);
        judged("A.A", NONE, NONE, x);
        judged("AfsA", 3, 2, x);
        Due.live(x, "F");
        judged("F", 0, 2, x);
        judged("E", NONE, NONE, x);
        judged(".F", NONE, NONE, x);
        Due.live(x, ".");
        due("none today", 0, x.told(6));
        judged("F", NONE, NONE, x);
    }

    /** "3 the WALL KEEPS 0 already". */
    private static void whiteAlready() {
        ColourEcho x = new ColourEcho();
        for (int wall = 0; wall < 4; wall++) {
            judged("w" + wall, 0, 3, x);
            x.wall(wall, 9, 1);
            judged("w" + wall, NONE, NONE, x);
            judged("w" + wall + "w" + wall, 1, 3, x);
            judged("w" + wall + ".w" + wall, 2, 3, x);
        }
        judged("w0w1w2w3", NONE, NONE, x);
        x.wall(2, 9, 0);
        judged("w0w1w2w3", 2, 3, x);
        Due.live(x, "w0");
        judged("w0", 0, 3, x);
        x.wall(0, 1, 1);
        judged("w0", NONE, NONE, x);
    }

    /** "4 it is day 99 (.)". */
    private static void day99() {
        ColourEcho x = new ColourEcho();
        Due.pass(x, 98);
        judged(".", NONE, NONE, x);
        judged("..", 1, 4, x);
        due("not done", NO, x.done());
        due("day 98", 98, x.told(1));
        Due.live(x, ".");
        due("day 99", 99, x.told(1));
        judged(".", 0, 4, x);
        due("no day behind", NO, x.behind(3));
        due("nor broken", NO, x.broken());
        x.wall(0, 1, 1);
        judged("r1Afsw0", NONE, NONE, x);
        due("day behind", 99, x.behind(3));
        due("all else is done", 5, x.done());
        due("day 99 stays", 99, x.told(1));
        due("seen", 10, x.sees(0));
    }

    /** "An ACT can not be for the least of these reasons". */
    private static void theLeastOfTheReasons() {
        ColourEcho x = nearlyFull(9, 0, 0);
        judged("AA", 1, 1, x);
        ColourEcho worn = nearlyFull(0, 0, 0);
        judged("AA", 1, 2, worn);
    }

    /** "of DAYS the first ACT (from 0 on) that can not be". */
    private static void theFirstActThatCanNotBe() {
        ColourEcho x = new ColourEcho();
        judged("w0AA", 0, 3, x);
        judged("AAw0", 1, 2, x);
        judged("r1y1b1fsABw0w0", 7, 3, x);
        judged("r9".repeat(12) + "AA", 11, 1, x);
    }

    private static void actsOfAFullPad() {
        ColourEcho x = new ColourEcho();
        Due.pass(x, 40);
        judged(".".repeat(60), 59, 4, x);
        judged(".".repeat(59) + "f", NONE, NONE, x);
        judged("r1".repeat(30), NONE, NONE, x);
        due("30 acts", 30, x.done());
        due("300 shown", 300, x.sees(0));
        ColourEcho other = new ColourEcho();
        Due.pass(other, 39);
        judged(".".repeat(60), NONE, NONE, other);
        due("60 acts", 60, other.done());
        due("day 99", 99, other.told(1));
    }

    private static void judgedOutside() {
        ColourEcho x = new ColourEcho();
        Due.write(x, "r");
        due("-1", OUTSIDE, x.judge(-1));
        due("2", OUTSIDE, x.judge(2));
        due("0", NO, x.judge(0));
        due("1", NO, x.judge(1));
    }

    /** "DAYS on the PAD are DONE (it is empty then): ACTS". */
    private static void doneEmptiesThePad() {
        ColourEcho x = new ColourEcho();
        due("of nothing", 0, x.done());
        Due.write(x, "r1.");
        due("acts, not signs", 2, x.done());
        due("empty", 0, x.told(0));
        due("no fault", NONE, x.fault());
        due("nothing twice", 0, x.done());
        due("day", 1, x.told(1));
        due("wipe", 0, x.wipe());
    }

    /** "NO: there is a FAULT, or an ACT that can not be". */
    private static void doneThatCanNotBe() {
        for (String text : new String[] {"r5r", "r5x", "r5w0", "r5AA"}) {
            ColourEcho x = new ColourEcho();
            Due.write(x, text);
            due("done of " + text, NO, x.done());
            due("signs stay", text.length(), x.told(0));
            due("nothing shown", 0, x.sees(0));
            due("nothing worn", 0, x.told(6));
            due("broken of " + text, NO, x.broken());
            for (int what = 0; what < 4; what++) {
                due("behind of " + text, NO, x.behind(what));
            }
            due("outside comes first", OUTSIDE, x.behind(4));
            due("outside comes first", OUTSIDE, x.behind(-1));
        }
    }

    /** "BEHIND, likewise, not being DONE". */
    private static void behindIsNotDone() {
        ColourEcho x = new ColourEcho();
        x.wall(0, 1, 5);
        Due.write(x, "r8.y2fw0.");
        for (int twice = 0; twice < 2; twice++) {
            due("red", 0, x.behind(0));
            due("yellow", 0, x.behind(1));
            due("day", 2, x.behind(3));
        }
        due("keeps", 5, x.told(11));
        due("day", 0, x.told(1));
        due("signs", 9, x.told(0));
        Due.write(x, "r8.y2");
        due("of what was shown so far", 40, x.behind(0));
        due("of what was shown so far", 20, x.behind(1));
        due("blue", 0, x.behind(2));
    }

    private static void behindOfNothing() {
        ColourEcho x = new ColourEcho();
        Due.live(x, ".b7");
        due("blue", 70, x.behind(2));
        due("day", 1, x.behind(3));
    }

    /** "on which more of some COLOUR is SEEN than LIMIT". */
    private static void limitIsNotMoreThanLimit() {
        for (int colour = 0; colour < 3; colour++) {
            ColourEcho x = new ColourEcho();
            x.limit(90);
            String letter = "ryb".substring(colour, colour + 1);
            Due.write(x, letter + "9.");
            due("90 of 90", NONE, x.broken());
            x.limit(89);
            due("90 of 89", 0, x.broken());
        }
        ColourEcho x = new ColourEcho();
        x.limit(50);
        Due.write(x, "r5y5b5");
        due("of one colour, not of all", NONE, x.broken());
    }

    private static void limitOfNothing() {
        ColourEcho x = new ColourEcho();
        x.limit(0);
        Due.write(x, "..");
        due("0 of 0", NONE, x.broken());
        Due.write(x, "..r1");
        due("10 of 0", 2, x.broken());
    }

    private static void limitOfAll() {
        ColourEcho x = new ColourEcho();
        x.wall(0, 1, 9);
        x.limit(999);
        Due.show990(x, "r");
        Due.write(x, "." + "r9".repeat(11));
        due("999 at most", 999, x.behind(0));
        due("never more than 999", NONE, x.broken());
        x.limit(998);
        due("999 of 998", 1, x.broken());
    }

    /** "the first day of DAYS (as it is when it ends". */
    private static void brokenAsADayEnds() {
        ColourEcho x = new ColourEcho();
        x.limit(40);
        x.wall(0, 1, 9);
        Due.live(x, "r5.");
        due("45 of 40 as it is", 0, x.broken());
        Due.write(x, "f.");
        due("fog by its end", NONE, x.broken());
        Due.write(x, "ff.");
        due("clear by its end", 0, x.broken());
        Due.write(x, "s.");
        due("snow by its end", NONE, x.broken());
        Due.write(x, "w0.");
        due("whitened by its end", NONE, x.broken());
        Due.write(x, "fb3b2.");
        due("shown by its end", 0, x.broken());
    }

    /** "the last one as it is)". */
    private static void brokenAsTheLastDayIs() {
        ColourEcho x = new ColourEcho();
        x.limit(40);
        x.wall(0, 1, 9);
        Due.live(x, "r4r1f");
        Due.write(x, ".");
        due("today has 50", 0, x.broken());
        x.limit(50);
        x.wall(1, 1, 9);
        due("tomorrow 90", 1, x.broken());
        Due.write(x, ".f");
        due("tomorrow's fog", NONE, x.broken());
        Due.write(x, ".ff");
        due("and none", 1, x.broken());
    }

    /** "counted from today (0: today)". */
    private static void brokenIsCountedFromToday() {
        ColourEcho x = new ColourEcho();
        x.limit(9);
        Due.pass(x, 30);
        Due.write(x, "b1.");
        due("today", 0, x.broken());
        Due.write(x, ".".repeat(57) + "b1");
        due("57 days on", 57, x.broken());
        Due.write(x, ".b1.b1");
        due("the first of two", 1, x.broken());
    }

    private static void seesItsColours() {
        ColourEcho x = new ColourEcho();
        Due.live(x, "r1y2b3");
        due("-1", OUTSIDE, x.sees(-1));
        due("red", 10, x.sees(0));
        due("yellow", 20, x.sees(1));
        due("blue", 30, x.sees(2));
        due("3", OUTSIDE, x.sees(3));
    }

    /** "d days from now (0 to 60)". Of 12, six days off a wall that keeps 9: 10, 9, 8, .. 2, 1 on day 60. */
    private static ColourEcho lastsTo60() {
        ColourEcho x = new ColourEcho();
        x.dress(0, 12, 0, 0);
        x.wall(0, 6, 9);
        Due.live(x, "A");
        return x;
    }

    private static void forecastAtItsEnds() {
        ColourEcho x = lastsTo60();
        due("-1", OUTSIDE, x.forecast(0, -1));
        due("0", 12, x.forecast(0, 0));
        due("1", 0, x.forecast(0, 1));
        due("6", 10, x.forecast(0, 6));
        due("54", 2, x.forecast(0, 54));
        due("60", 1, x.forecast(0, 60));
        due("61", OUTSIDE, x.forecast(0, 61));
        due("colour -1", OUTSIDE, x.forecast(-1, 0));
        due("colour 3", OUTSIDE, x.forecast(3, 0));
    }

    /** "without FOG or SNOW (but today's)". */
    private static void forecastWithTodaysFogAndSnow() {
        ColourEcho x = new ColourEcho();
        x.wall(0, 1, 5);
        x.wall(1, 3, 5);
        Due.live(x, "r8.r2f");
        due("fog now", 20, x.forecast(0, 0));
        due("10 off wall 0", 10, x.forecast(0, 1));
        due("5 and 40", 45, x.forecast(0, 2));
        Due.live(x, "s");
        due("snow now", 20, x.forecast(0, 0));
        due("10 off wall 0", 10, x.forecast(0, 1));
        due("5 alone", 5, x.forecast(0, 2));
        Due.live(x, "fs");
        due("neither", 60, x.forecast(0, 0));
    }

    private static void forecastPastDay99() {
        ColourEcho x = new ColourEcho();
        x.dress(0, 12, 0, 0);
        x.wall(0, 6, 9);
        Due.pass(x, 99);
        Due.live(x, "A");
        due("day 159", 1, x.forecast(0, 60));
        due("hue of day 159", 0, x.hue(60));
        due("not gone", NONE, x.gone());
        due("make for day 159", 0, x.make(0, 60, 1, 0));
    }

    /** "the first d (0 to 60) from which on nothing of any COLOUR is SEEN to d 60; NONE". */
    private static void goneAtItsEnds() {
        due("nothing", 0, new ColourEcho().gone());
        ColourEcho x = lastsTo60();
        due("still there on day 60", NONE, x.gone());
        Due.live(x, ".");
        due("1 when 59 days on", 1, x.forecast(0, 59));
        due("gone by 60", 60, x.gone());
        Due.live(x, ".");
        due("gone by 59", 59, x.gone());
        for (int colour = 0; colour < 3; colour++) {
            ColourEcho one = new ColourEcho();
            one.wall(3, 9, 9);
            Due.live(one, "ryb".substring(colour, colour + 1) + "1");
            due("any colour: 4 on day 54, and 3 on day 63 only", 55, one.gone());
            one.wall(3, 9, 1);
            due("1 nine days on, though nothing between", 10, one.gone());
        }
    }

    private static void goneLooksNoFartherThan60() {
        ColourEcho x = new ColourEcho();
        x.dress(0, 20, 0, 0);
        x.wall(0, 6, 9);
        Due.live(x, "A");
        // 20, 18, 16, 14, 12, 10, 9, 8, 7, 6, 5, 4: 5 on day 60 and 4 on day 66.
        due("not by day 60", NONE, x.gone());
        Due.live(x, ".");
        due("day 61 has nothing, and no day behind it is looked at", 60, x.gone());
    }

    /** "of which COLOUR most is SEEN then (of several the least; NONE: nothing is)". */
    private static void hueAtItsEnds() {
        ColourEcho x = lastsTo60();
        due("-1", OUTSIDE, x.hue(-1));
        due("0", 0, x.hue(0));
        due("59", NONE, x.hue(59));
        due("60", 0, x.hue(60));
        due("61", OUTSIDE, x.hue(61));
        String[] shown = {"r1y1b1", "y1b1", "r1b1", "b1", "r1b2", "y2b2r1", "r1y2b3", ""};
        int[] want = {0, 1, 0, 2, 2, 1, 2, NONE};
        for (int i = 0; i < shown.length; i++) {
            ColourEcho one = new ColourEcho();
            Due.live(one, shown[i]);
            due("hue of " + shown[i], want[i], one.hue(0));
        }
        ColourEcho full = new ColourEcho();
        full.wall(0, 1, 9);
        full.wall(1, 1, 9);
        Due.live(full, "b9r1");
        due("more blue", 2, full.hue(1));
        due("999 of both", 0, full.hue(60));
    }
}
