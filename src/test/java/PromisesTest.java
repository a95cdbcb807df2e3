/** For each promise: ordinary inputs, the edges that the document names, and wrong inputs. Answers are worked out by hand. */
public final class PromisesTest {
    private static final int NONE = -6, UNKNOWN = -1, OUTSIDE = -2, STATE = -3, FULL = -4, NO = -5;
    private static final long LOST = -1000000000000000000L;
    private static final int[] FAR = {Integer.MIN_VALUE, -1000, -1, 1000000000, Integer.MAX_VALUE};
    private static final Due DUE = new Due();

    public static void main(String[] args) {
        newObject();
        walls();
        dresses();
        limits();
        saysAndWipes();
        faults();
        judged();
        judgedByEachReason();
        doneDays();
        behindDays();
        brokenDays();
        seesToday();
        fogAndSnow();
        wallsWhileDaysGo();
        forecasts();
        goneAndHue();
        makes();
        wishes();
        whitens();
        aparts();
        spoils();
        sights();
        looks();
        fogChances();
        turnsOfTwo();
        years();
        images();
        tolds();
        refusalsChangeNothing();
        DUE.end();
    }

    private static void due(String call, long want, long got) {
        DUE.is(call, want, got);
    }

    private static void newObject() {
        ColourEcho x = new ColourEcho();
        int[] ofToday = {0, 0, 500, 0, 0, 0, 0};
        for (int what = 0; what < ofToday.length; what++) {
            due("new told " + what, ofToday[what], x.told(what));
        }
        for (int wall = 0; wall < 4; wall++) {
            due("new off " + wall, wall + 1, x.told(10 * (1 + wall)));
            due("new keeps " + wall, 0, x.told(10 * (1 + wall) + 1));
        }
        for (int dress = 0; dress < 6; dress++) {
            for (int colour = 0; colour < 3; colour++) {
                due("new dress " + dress, 0, x.told(100 * (1 + dress) + colour));
            }
        }
        for (int colour = 0; colour < 3; colour++) {
            due("new sees " + colour, 0, x.sees(colour));
        }
        due("new restore 0", STATE, x.restore(0));
        due("new restore 1", STATE, x.restore(1));
    }

    private static void walls() {
        ColourEcho x = new ColourEcho();
        due("wall", 0, x.wall(3, 9, 9));
        due("wall again", 9, x.wall(3, 1, 0));
        due("wall third", 0, x.wall(3, 5, 4));
        due("off", 5, x.told(40));
        due("keeps", 4, x.told(41));
        for (int far : FAR) {
            due("wall " + far, UNKNOWN, x.wall(far, 1, 1));
            due("off " + far, OUTSIDE, x.wall(0, far, 1));
            due("keeps " + far, OUTSIDE, x.wall(0, 1, far));
        }
        due("wall 4", UNKNOWN, x.wall(4, 0, 10));
        due("off 0", OUTSIDE, x.wall(0, 0, 1));
        due("off 10", OUTSIDE, x.wall(0, 10, 1));
        due("keeps 10", OUTSIDE, x.wall(0, 1, 10));
        due("off as it was", 1, x.told(10));
        due("keeps as it was", 0, x.told(11));
    }

    private static void dresses() {
        ColourEcho x = new ColourEcho();
        due("dress", 0, x.dress(5, 99, 98, 97));
        due("dress again", 294, x.dress(5, 0, 0, 1));
        due("dress third", 1, x.dress(5, 1, 2, 3));
        due("red", 1, x.told(600));
        due("yellow", 2, x.told(601));
        due("blue", 3, x.told(602));
        for (int far : FAR) {
            due("dress " + far, UNKNOWN, x.dress(far, 0, 0, 0));
            due("red " + far, OUTSIDE, x.dress(5, far, 0, 0));
            due("yellow " + far, OUTSIDE, x.dress(5, 0, far, 0));
            due("blue " + far, OUTSIDE, x.dress(5, 0, 0, far));
        }
        due("dress 6", UNKNOWN, x.dress(6, 100, 0, 0));
        due("blue 100", OUTSIDE, x.dress(5, 0, 0, 100));
        due("as it was", 6, x.dress(5, 1, 2, 3));
        // What was shown stays shown when the dress is cut anew, and it was shown all the same.
        due("worn", 1, Due.live(x, "F"));
        x.dress(5, 50, 50, 50);
        due("shown before", 2, x.sees(1));
        due("worn still", 32, x.told(6));
    }

    private static void limits() {
        ColourEcho x = new ColourEcho();
        due("limit", 500, x.limit(0));
        due("limit 999", 0, x.limit(999));
        for (int far : FAR) {
            due("limit " + far, OUTSIDE, x.limit(far));
        }
        due("limit 1000", OUTSIDE, x.limit(1000));
        due("limit told", 999, x.told(2));
    }

    private static void saysAndWipes() {
        ColourEcho x = new ColourEcho();
        due("wipe nothing", 0, x.wipe());
        for (int far : FAR) {
            due("say " + far, OUTSIDE, x.say(far));
        }
        due("say 32", OUTSIDE, x.say(32));
        due("say 127", OUTSIDE, x.say(127));
        due("say 33", 1, x.say(33));
        due("say 126", 2, x.say(126));
        for (int n = 3; n <= 60; n++) {
            due("say " + n, n, x.say('f'));
        }
        due("say 61", FULL, x.say('f'));
        due("outside ahead of full", OUTSIDE, x.say(127));
        due("signs", 60, x.told(0));
        due("wipe", 60, x.wipe());
        due("signs", 0, x.told(0));
        due("say anew", 1, x.say('f'));
    }

    private static void fault(int want, String text) {
        ColourEcho x = new ColourEcho();
        Due.write(x, text);
        due("fault of " + text, want, x.fault());
        due("judge of " + text, want == NONE ? x.judge(0) : NO, x.judge(0));
        if (want != NONE) {
            due("done of " + text, NO, x.done());
            due("behind of " + text, NO, x.behind(3));
            due("broken of " + text, NO, x.broken());
            due("outside ahead of no", OUTSIDE, x.behind(4));
            due("outside ahead of no", OUTSIDE, x.judge(2));
            due("pad stays", text.length(), x.told(0));
        }
    }

    private static void faults() {
        fault(NONE, "");
        fault(NONE, "r1y9b5ABCDEFfsw0w3.");
        fault(1, "r");
        fault(1, "r0");
        fault(1, "r:");
        fault(1, "w4");
        fault(1, "w/");
        fault(1, "w");
        fault(1, "rr1");
        fault(1, "r.");
        fault(0, "G");
        fault(0, "@");
        fault(0, "a");
        fault(0, "1");
        fault(0, "R1");
        fault(2, "r1x");
        fault(4, "f.sA2");
        fault(5, "AAAAb");
        fault(3, "w1ww1");
        fault(60, "ffffffffffffffffffffffffffffffffffffffffffffffffffffffffff" + "fy");
    }

    private static void judged() {
        ColourEcho x = new ColourEcho();
        due("judge empty", NONE, x.judge(0));
        for (int far : FAR) {
            due("judge " + far, OUTSIDE, x.judge(far));
        }
        due("judge 2", OUTSIDE, x.judge(2));
        Due.write(x, "r5AfB.Aw2s");
        due("place among acts", 6, x.judge(0));
        due("why", 3, x.judge(1));
        due("pad stays", 10, x.told(0));
        due("nothing is so", 0, x.sees(0));
        x.wall(2, 3, 1);
        due("judge when it keeps", NONE, x.judge(0));
        due("why", NONE, x.judge(1));
    }

    private static void judgedByEachReason() {
        ColourEcho x = new ColourEcho();
        x.dress(0, 9, 0, 0);
        x.dress(1, 10, 0, 0);
        Due.live(x, "r9r9r9r9r9r9r9r9r9r9r9");
        due("990 shown", 990, x.sees(0));
        Due.write(x, "r1");
        due("1000 can not be", 1, x.judge(1));
        Due.write(x, "B");
        due("nor by a dress", 1, x.judge(1));
        Due.write(x, "A");
        due("999 can", NONE, x.judge(1));
        Due.write(x, "AA");
        due("both: the least reason", 1, x.judge(1));
        due("which", 1, x.judge(0));
        Due.write(x, "y9bbb");
        due("fault first", NO, x.judge(0));
        Due.write(x, "CC");
        due("once a day", 2, x.judge(1));
        Due.write(x, "C.C");
        due("but on the next too", NONE, x.judge(1));
        Due.write(x, "w0");
        due("white already", 3, x.judge(1));
        lastDay();
    }

    private static void lastDay() {
        ColourEcho x = new ColourEcho();
        Due.live(x, "..................................................");
        Due.live(x, "................................................");
        due("day 98", 98, x.told(1));
        Due.write(x, "..");
        due("day 100 can not be", 1, x.judge(0));
        due("why", 4, x.judge(1));
        due("nor be done", NO, x.done());
        due("day 99", 1, Due.live(x, "."));
        Due.write(x, "r1.");
        due("no day behind", 1, x.judge(0));
        due("acts of day 99", 1, Due.live(x, "r1"));
        due("forecasts go on", 0, x.forecast(0, 60));
        due("years too", 10, x.year(0, 1, 0));
    }

    private static void doneDays() {
        ColourEcho x = new ColourEcho();
        due("done of nothing", 0, x.done());
        x.dress(0, 1, 2, 3);
        x.wall(1, 2, 9);
        due("acts", 8, Due.live(x, "r1y2.b3fsAw1"));
        due("signs gone", 0, x.told(0));
        due("day", 1, x.told(1));
        due("fog", 1, x.told(4));
        due("snow", 1, x.told(5));
        due("worn", 1, x.told(6));
        due("whitened", 0, x.told(21));
        due("off stays", 2, x.told(20));
        due("red", 1, x.sees(0));
        due("yellow", 2, x.sees(1));
        due("blue", 33, x.sees(2));
        due("fog and snow go", 2, Due.live(x, "fs"));
        due("fog", 0, x.told(4));
        due("snow", 0, x.told(5));
        due("next", 1, Due.live(x, "."));
        due("worn", 0, x.told(6));
        due("fog of a day alone", 2, Due.live(x, "f."));
        due("fog", 0, x.told(4));
        due("one that can not be", NO, Due.live(x, "r1w1"));
        due("pad stays", 4, x.told(0));
        due("nothing was so", 0, x.sees(0));
    }

    private static void behindDays() {
        ColourEcho x = new ColourEcho();
        x.wall(0, 2, 7);
        Due.live(x, "r5");
        Due.write(x, "..y1.");
        due("red behind", 0, x.behind(0));
        Due.write(x, "..y1");
        due("red behind", 35, x.behind(0));
        due("yellow behind", 10, x.behind(1));
        due("blue behind", 0, x.behind(2));
        due("day behind", 2, x.behind(3));
        due("day now", 0, x.told(1));
        due("red now", 50, x.sees(0));
        for (int far : FAR) {
            due("behind " + far, OUTSIDE, x.behind(far));
        }
        due("behind 4", OUTSIDE, x.behind(4));
        Due.write(x, "AA");
        due("can not be", NO, x.behind(0));
    }

    private static void brokenDays() {
        ColourEcho x = new ColourEcho();
        due("empty", NONE, x.broken());
        x.limit(50);
        Due.live(x, "r5");
        due("50 is no more than 50", NONE, x.broken());
        Due.write(x, "r1f.");
        due("today as it ends", 0, x.broken());
        Due.write(x, "..b3b3.");
        due("two days on", 2, x.broken());
        Due.write(x, "..b3b3");
        due("the last as it is", 2, x.broken());
        x.wall(0, 1, 9);
        x.wall(1, 1, 9);
        Due.write(x, ".");
        due("off two walls 90", 1, x.broken());
        Due.write(x, ".f");
        due("fog at the day's end", NONE, x.broken());
        Due.write(x, ".fr6f.");
        due("fog that is no more", 1, x.broken());
        Due.write(x, ".w1.");
        due("whitened ahead of the day's end", NONE, x.broken());
        Due.live(x, ".");
        due("today, told by an empty pad", 0, x.broken());
        Due.write(x, "AA");
        due("can not be", NO, x.broken());
    }

    private static void seesToday() {
        ColourEcho x = new ColourEcho();
        for (int far : FAR) {
            due("sees " + far, OUTSIDE, x.sees(far));
        }
        due("sees 3", OUTSIDE, x.sees(3));
        x.wall(0, 1, 9);
        x.wall(1, 1, 3);
        Due.live(x, "r9r9r9r9r9r9r9r9r9r9r9.");
        due("999 at most", 999, x.sees(0));
        Due.live(x, "r1");
        due("in all", 999, x.sees(0));
        due("not of another colour", 0, x.sees(1));
        ColourEcho cut = new ColourEcho();
        cut.wall(0, 1, 9);
        cut.wall(1, 1, 9);
        cut.dress(0, 9, 0, 0);
        Due.live(cut, "A.");
        due("cut wall by wall: 8 and 8", 16, cut.sees(0));
    }

    private static void fogAndSnow() {
        ColourEcho x = new ColourEcho();
        x.wall(0, 2, 5);
        x.wall(3, 9, 8);
        Due.live(x, "y8.f");
        due("fog", 0, x.sees(1));
        due("seen behind the fog", 40, x.forecast(1, 1));
        due("nine days on", 64, x.forecast(1, 8));
        Due.live(x, "fs");
        due("not behind snow", 0, x.forecast(1, 1));
        due("nor nine days on", 0, x.forecast(1, 8));
        due("snow that is no more", 2, Due.live(x, "s."));
        due("seen", 40, x.sees(1));
        Due.live(x, "s");
        due("snow keeps off the walls", 0, x.sees(1));
        Due.live(x, "y3");
        due("what is shown is seen", 30, x.sees(1));
        due("and comes back", 15, x.forecast(1, 2));
        Due.live(x, "..");
        due("and came", 15, x.sees(1));
        Due.live(x, ".....");
        due("old snow keeps the first day off", 0, x.forecast(1, 0));
    }

    private static void wallsWhileDaysGo() {
        ColourEcho x = new ColourEcho();
        x.wall(0, 1, 5);
        Due.live(x, "r8.");
        due("forty", 40, x.sees(0));
        x.wall(0, 1, 9);
        due("the wall as it is now", 72, x.sees(0));
        Due.live(x, ".");
        x.wall(0, 2, 9);
        due("days ahead stay as they were seen", 72, x.sees(0));
        x.wall(0, 1, 1);
        due("the last one as it ended", 7, x.sees(0));
        Due.live(x, "w0");
        due("whitened, from now on", 0, x.sees(0));
    }

    private static void forecasts() {
        ColourEcho x = new ColourEcho();
        x.wall(0, 1, 5);
        x.wall(1, 2, 3);
        Due.live(x, "b9");
        int[] want = {90, 45, 22 + 27, 24 + 13, 18 + 14, 16 + 11};
        for (int d = 0; d < want.length; d++) {
            due("forecast " + d, want[d], x.forecast(2, d));
        }
        Due.live(x, "f");
        due("today's fog", 90, x.forecast(2, 0));
        due("is today's alone", 45, x.forecast(2, 1));
        for (int far : FAR) {
            due("colour " + far, OUTSIDE, x.forecast(far, 0));
            due("days " + far, OUTSIDE, x.forecast(0, far));
        }
        due("colour 3", OUTSIDE, x.forecast(3, 0));
        due("61 days", OUTSIDE, x.forecast(0, 61));
        due("60 days", 0, x.forecast(2, 60));
    }

    private static void goneAndHue() {
        ColourEcho x = new ColourEcho();
        due("gone at once", 0, x.gone());
        due("no hue", NONE, x.hue(0));
        Due.live(x, "y1b1");
        due("gone tomorrow", 1, x.gone());
        due("of two the least", 1, x.hue(0));
        due("no hue tomorrow", NONE, x.hue(1));
        x.wall(3, 9, 1);
        due("one comes back", 10, x.gone());
        due("its hue", 1, x.hue(9));
        due("between", NONE, x.hue(8));
        Due.live(x, "b1");
        due("most", 2, x.hue(0));
        x.wall(0, 1, 9);
        x.wall(1, 1, 9);
        due("never gone", NONE, x.gone());
        ColourEcho edge = new ColourEcho();
        edge.dress(0, 11, 0, 0);
        edge.dress(1, 1, 0, 0);
        // 11, 9, 8, 7, 6, 5, 4, 3, 2, 1: the last one nine steps on; from 12 there is one step more.
        edge.wall(0, 6, 9);
        Due.live(edge, "A");
        due("gone behind day 54", 55, edge.gone());
        due("1 on day 54", 1, edge.forecast(0, 54));
        Due.live(edge, "B");
        due("1 on day 60", 1, edge.forecast(0, 60));
        due("not gone by then", NONE, edge.gone());
        due("its hue", 0, edge.hue(60));
        for (int far : FAR) {
            due("hue " + far, OUTSIDE, x.hue(far));
        }
        due("hue 61", OUTSIDE, x.hue(61));
    }

    private static void makes() {
        ColourEcho x = new ColourEcho();
        x.wall(0, 1, 3);
        due("nothing is enough", 0, x.make(0, 1, 0, 0));
        due("least for 1 tomorrow", 4, x.make(0, 1, 1, 0));
        due("seen then", 1, x.make(0, 1, 1, 1));
        due("least for 299", 997, x.make(0, 1, 299, 0));
        due("299 seen", 299, x.make(0, 1, 299, 1));
        due("300 by none", NONE, x.make(0, 1, 300, 0));
        due("nor what is seen", NONE, x.make(0, 1, 300, 1));
        Due.live(x, "r9r9r9r9r9r9r9r9r9r9r9");
        due("more than 999 in all", 9, x.make(0, 0, 999, 0));
        due("and then", 999, x.make(0, 0, 999, 1));
        due("not of tomorrow either", 0, x.make(0, 1, 297, 0));
        due("299 of 999", 7, x.make(0, 1, 299, 0));
        for (int far : FAR) {
            due("colour " + far, OUTSIDE, x.make(far, 0, 0, 0));
            due("days " + far, OUTSIDE, x.make(0, far, 0, 0));
            due("v " + far, OUTSIDE, x.make(0, 0, far, 0));
            due("what " + far, OUTSIDE, x.make(0, 0, 0, far));
        }
        due("colour 3", OUTSIDE, x.make(3, 0, 0, 0));
        due("61 days", OUTSIDE, x.make(0, 61, 0, 0));
        due("v 1000", OUTSIDE, x.make(0, 0, 1000, 0));
        due("what 2", OUTSIDE, x.make(0, 0, 0, 2));
    }

    private static void wishes() {
        ColourEcho x = new ColourEcho();
        x.dress(0, 10, 0, 0);
        x.dress(1, 20, 0, 0);
        x.dress(2, 30, 0, 5);
        due("30 red: two ways, the least set", 0, x.wish(3, 0, 30000000, 0));
        due("A and B", 3, x.wish(3, 0, 30000000, 1));
        due("C is off by its blue", 5, x.wish(4, 0, 30000000, 0));
        due("C with blue", 4, x.wish(7, 0, 30000005, 1));
        due("nothing goes out", 15, x.wish(6, 0, 1002012, 0));
        due("the empty set", 0, x.wish(6, 0, 1002012, 1));
        due("a tie: the least", 0, x.wish(1, 0, 5000000, 1));
        due("five either way", 5, x.wish(1, 0, 5000000, 0));
        due("no one to go", 2997, x.wish(0, 60, 999999999, 0));
        Due.live(x, "A");
        due("shown already is no matter", 0, x.wish(1, 0, 20000000, 0));
        due("once more", 1, x.wish(1, 0, 20000000, 1));
        x.wall(0, 1, 5);
        due("tomorrow", 0, x.wish(7, 1, 15000000, 0));
        due("B besides", 2, x.wish(7, 1, 15000000, 1));
        for (int far : FAR) {
            due("set " + far, UNKNOWN, x.wish(far, far, far, far));
            due("days " + far, OUTSIDE, x.wish(0, far, 0, 0));
            due("what " + far, OUTSIDE, x.wish(0, 0, 0, far));
        }
        due("set 64", UNKNOWN, x.wish(64, 0, 0, 0));
        due("wish -1", OUTSIDE, x.wish(0, 0, -1, 0));
        due("wish 1000000000", OUTSIDE, x.wish(0, 0, 1000000000, 0));
        due("61 days", OUTSIDE, x.wish(0, 61, 0, 0));
        due("what 2", OUTSIDE, x.wish(0, 0, 0, 2));
    }

    private static void whitens() {
        ColourEcho x = new ColourEcho();
        x.wall(0, 1, 4);
        x.wall(1, 2, 4);
        x.wall(2, 3, 4);
        Due.live(x, "y9.");
        due("now 36", 36, x.sees(1));
        due("no window", 0, x.whiten(0, 999, 0));
        // With wall 0 white: 0, 36, 36, 14, 28 and less; with all three alone less than 36.
        due("one for 36", 1, x.whiten(0, 36, 0));
        due("wall 0", 1, x.whiten(0, 36, 1));
        due("three for less", 3, x.whiten(0, 35, 0));
        due("all that keep", 7, x.whiten(0, 35, 1));
        due("three for nothing", 3, x.whiten(0, 0, 0));
        due("none for 999", 0, x.whiten(60, 999, 1));
        Due.live(x, "r9");
        due("what is shown stays", NONE, x.whiten(0, 89, 0));
        due("nor which", NONE, x.whiten(0, 89, 1));
        ColourEcho two = new ColourEcho();
        two.wall(1, 1, 5);
        two.wall(3, 1, 5);
        Due.live(two, "b8");
        due("80 tomorrow", 80, two.forecast(2, 1));
        due("one of two", 1, two.whiten(1, 40, 0));
        due("the lesser", 2, two.whiten(1, 40, 1));
        due("both", 10, two.whiten(1, 39, 1));
        Due.live(two, ".");
        due("whitened today counts today", 2, two.whiten(0, 40, 1));
        due("nothing was whitened", 5, two.told(21));
        for (int far : FAR) {
            due("days " + far, OUTSIDE, x.whiten(far, 0, 0));
            due("v " + far, OUTSIDE, x.whiten(0, far, 0));
            due("what " + far, OUTSIDE, x.whiten(0, 0, far));
        }
        due("61 days", OUTSIDE, x.whiten(61, 0, 0));
        due("v 1000", OUTSIDE, x.whiten(0, 1000, 0));
        due("what 2", OUTSIDE, x.whiten(0, 0, 2));
    }

    private static void aparts() {
        ColourEcho x = new ColourEcho();
        x.wall(0, 1, 1);
        x.dress(0, 10, 0, 0);
        x.dress(1, 19, 9, 0);
        x.dress(2, 20, 0, 0);
        x.dress(3, 19, 0, 9);
        x.dress(4, 9, 0, 0);
        due("tomorrow A, B and D are one", 4, x.apart(63, 1, -1));
        int[] want = {1, 3, 13, 45, NONE};
        for (int i = 0; i < want.length; i++) {
            due("apart " + i, want[i], x.apart(63, 1, i));
        }
        due("of a set", 1, x.apart(9, 1, -1));
        due("which", 3, x.apart(9, 1, 0));
        due("one alone", 0, x.apart(8, 1, -1));
        due("today all are apart", 0, x.apart(63, 0, -1));
        due("much later none is", 15, x.apart(63, 60, -1));
        Due.live(x, "r9f");
        due("fog and what was shown are no matter", 4, x.apart(63, 1, -1));
        due("there is no such one", NONE, x.apart(63, 1, -2));
        due("nor so many", NONE, x.apart(63, 1, Integer.MAX_VALUE));
        for (int far : FAR) {
            due("set " + far, UNKNOWN, x.apart(far, far, 0));
            due("days " + far, OUTSIDE, x.apart(0, far, 0));
        }
        due("set 64", UNKNOWN, x.apart(64, 61, 0));
        due("61 days", OUTSIDE, x.apart(63, 61, 0));
    }

    private static void spoils() {
        ColourEcho x = new ColourEcho();
        x.wall(2, 1, 1);
        x.dress(0, 5, 15, 0);
        x.dress(1, 5, 5, 0);
        due("today nothing is spoilt", 3000, x.spoil(0, 1, 0));
        due("red 1 more, yellow 1 more", 3002, x.spoil(0, 1, 1));
        due("either way", 3002, x.spoil(1, 0, 1));
        x.wall(0, 1, 9);
        x.wall(1, 1, 9);
        x.dress(0, 99, 99, 99);
        x.dress(1, 99, 99, 99);
        due("cut at 999: three times 999 less", 3, x.spoil(0, 1, 60));
        for (int far : FAR) {
            due("dress " + far, UNKNOWN, x.spoil(far, 0, 0));
            due("other " + far, UNKNOWN, x.spoil(0, far, 0));
            due("days " + far, OUTSIDE, x.spoil(0, 1, far));
        }
        due("one and the same", UNKNOWN, x.spoil(3, 3, 61));
        due("dress 6", UNKNOWN, x.spoil(6, 0, 0));
        due("other 6", UNKNOWN, x.spoil(0, 6, 61));
        due("61 days", OUTSIDE, x.spoil(0, 1, 61));
    }

    private static void sights() {
        ColourEcho x = new ColourEcho();
        due("all", 90, x.shown(-1));
        due("first", 1, x.shown(0));
        due("tenth", 11, x.shown(9));
        due("last", 99, x.shown(89));
        due("beyond", NONE, x.shown(90));
        due("no such one", NONE, x.shown(-2));
        due("no such one", NONE, x.shown(Integer.MIN_VALUE));
        due("no such one", NONE, x.shown(Integer.MAX_VALUE));
        due("seen", 1, x.seen(4, 70));
        due("that day alone", 1, x.shown(-1));
        due("day 4, seven tens", 47, x.shown(0));
        due("and on no other", 2, x.seen(5, 0));
        due("still", 1, x.shown(-1));
        x.wall(0, 1, 5);
        due("walls as now: 35 would be seen", 0, x.shown(-1));
        due("sights", 2, x.told(3));
        due("forget", 2, x.forget());
        due("forget again", 0, x.forget());
        x.wall(0, 3, 5);
        x.seen(9, 10);
        due("80, 40, 20 or 10, three days apart", 4, x.shown(-1));
        int[] want = {8, 34, 62, 91, NONE};
        for (int i = 0; i < want.length; i++) {
            due("shown " + i, want[i], x.shown(i));
        }
        x.seen(3, 40);
        due("half of 80 on day 3", 2, x.shown(-1));
        due("from day 0", 8, x.shown(0));
        due("or all of 40", 34, x.shown(1));
        full();
        for (int far : FAR) {
            due("day " + far, OUTSIDE, x.seen(far, 0));
            due("v " + far, OUTSIDE, x.seen(0, far));
        }
        due("day 61", OUTSIDE, x.seen(61, 0));
        due("v 1000", OUTSIDE, x.seen(0, 1000));
    }

    private static void full() {
        ColourEcho x = new ColourEcho();
        for (int n = 1; n <= 8; n++) {
            due("sight " + n, n, x.seen(60, 0));
        }
        due("ninth", FULL, x.seen(0, 999));
        due("outside ahead of full", OUTSIDE, x.seen(61, 0));
        due("all fit", 90, x.shown(-1));
        due("eight", 8, x.told(3));
    }

    private static void looks() {
        ColourEcho x = new ColourEcho();
        for (int far : FAR) {
            due("look " + far, OUTSIDE, x.look(far));
        }
        due("look 2", OUTSIDE, x.look(2));
        due("every day the same: the least", 0, x.look(0));
        due("81 left", 81, x.look(1));
        x.seen(0, 0);
        due("day 0 tells nothing now", 1, x.look(0));
        due("72 left", 72, x.look(1));
        x.seen(1, 90);
        due("one fits", 1, x.shown(-1));
        due("any day will do", 0, x.look(0));
        due("one is left", 1, x.look(1));
        x.seen(2, 1);
        due("nothing fits", NONE, x.look(0));
        due("nor how many", NONE, x.look(1));
    }

    private static void fraction(ColourEcho x, int[] call, long upper, long lower) {
        String told = "fogs " + java.util.Arrays.toString(call);
        due(told + " upper", upper, x.fogs(call[0], call[1], call[2], call[3], call[4], 0));
        due(told + " lower", lower, x.fogs(call[0], call[1], call[2], call[3], call[4], 1));
    }

    private static void fogChances() {
        ColourEcho x = new ColourEcho();
        x.wall(0, 1, 5);
        x.wall(1, 2, 5);
        Due.live(x, "r8");
        fraction(x, new int[] {0, 0, 7, 80, 0}, 1, 1);
        fraction(x, new int[] {0, 0, 7, 81, 0}, 0, 1);
        fraction(x, new int[] {0, 1, 4, 40, 0}, 3, 5);
        fraction(x, new int[] {0, 1, 4, 40, 1}, 24, 1);
        // Two days: the second clear, 40 off wall 1 and 20 more if the first was clear: 7/10 * (3/10 * 40 + 7/10 * 60).
        fraction(x, new int[] {0, 2, 3, 60, 0}, 49, 100);
        fraction(x, new int[] {0, 2, 3, 40, 0}, 7, 10);
        fraction(x, new int[] {0, 2, 3, 40, 1}, 189, 5);
        fraction(x, new int[] {0, 2, 0, 60, 0}, 1, 1);
        fraction(x, new int[] {0, 8, 10, 1, 0}, 0, 1);
        fraction(x, new int[] {0, 8, 10, 0, 0}, 1, 1);
        fraction(x, new int[] {1, 8, 5, 999, 1}, 0, 1);
        long refused = LOST + OUTSIDE;
        for (int far : FAR) {
            due("colour " + far, refused, x.fogs(far, 0, 0, 0, 0, 0));
            due("days " + far, refused, x.fogs(0, far, 0, 0, 0, 0));
            due("tenths " + far, refused, x.fogs(0, 0, far, 0, 0, 0));
            due("v " + far, refused, x.fogs(0, 0, 0, far, 1, 0));
            due("what " + far, refused, x.fogs(0, 0, 0, 0, far, 0));
            due("part " + far, refused, x.fogs(0, 0, 0, 0, 0, far));
        }
        due("nine days", refused, x.fogs(0, 9, 0, 0, 0, 0));
        due("eleven tenths", refused, x.fogs(0, 0, 11, 0, 0, 0));
        due("v 1000", refused, x.fogs(0, 0, 0, 1000, 0, 0));
    }

    private static void turnsOfTwo() {
        ColourEcho x = new ColourEcho();
        x.limit(50);
        due("empty set", NONE, x.turns(0, 0));
        due("no dress", NONE, x.turns(0, 1));
        due("nobody loses", NONE, x.turns(63, 0));
        due("the least", 0, x.turns(63, 1));
        x.dress(2, 51, 0, 0);
        due("who begins must lose", 1, x.turns(4, 0));
        due("no dress", NONE, x.turns(4, 1));
        due("A first, then the other loses by C", 0, x.turns(5, 0));
        due("A", 0, x.turns(5, 1));
        due("A, B, then C by who began", 1, x.turns(7, 0));
        due("nothing helps", NONE, x.turns(7, 1));
        x.dress(0, 20, 0, 0);
        x.dress(1, 31, 0, 0);
        due("B first and both that are left lose", 0, x.turns(7, 0));
        due("A first, B and C lose too", 0, x.turns(7, 1));
        x.dress(3, 0, 50, 0);
        x.dress(4, 0, 0, 50);
        due("50 is no more than 50", NONE, x.turns(24, 0));
        due("D", 3, x.turns(24, 1));
        Due.live(x, "AD");
        due("some were shown already", 1, x.turns(8, 0));
        due("once more by E", NONE, x.turns(16, 0));
        x.limit(999);
        due("999 at most are seen", NONE, x.turns(63, 0));
        for (int far : FAR) {
            due("set " + far, UNKNOWN, x.turns(far, far));
            due("what " + far, OUTSIDE, x.turns(0, far));
        }
        due("set 64", UNKNOWN, x.turns(64, 2));
        due("what 2", OUTSIDE, x.turns(63, 2));
    }

    private static void years() {
        ColourEcho x = new ColourEcho();
        x.limit(9);
        // x: 74 shows 10 blue; 5624 (by 7: 803, left over by 100: 3; by 3: 2) 3 blue; 28652 (4093: 93; by 3: 2) 93 blue.
        due("one day", 10, x.year(0, 1, 0));
        due("two days", 3, x.year(0, 2, 0));
        due("three days", 93, x.year(0, 3, 0));
        due("over on two of three", 2, x.year(0, 3, 1));
        due("most", 93, x.year(0, 3, 2));
        due("most of two", 10, x.year(0, 2, 2));
        Due.live(x, "y9");
        due("today is none of them", 10, x.year(0, 1, 2));
        x.wall(0, 1, 9);
        due("but comes back", 91, x.year(0, 1, 0));
        // A seed by which the first day has fog, and one by which it has snow.
        due("fog", firstDraw(1, 7), x.year(seedOf(7, 31), 1, 0));
        due("snow", firstDraw(31, 7), x.year(seedOf(31, 7), 1, 0));
        due("day", 0, x.told(1));
        due("nothing is done", 90, x.sees(1));
        for (int far : FAR) {
            due("seed " + far, OUTSIDE, x.year(far, 1, 0));
            due("days " + far, OUTSIDE, x.year(0, far, 0));
            due("what " + far, OUTSIDE, x.year(0, 1, far));
        }
        due("seed 10000", OUTSIDE, x.year(10000, 1, 0));
        due("no day", OUTSIDE, x.year(0, 0, 0));
        due("61 days", OUTSIDE, x.year(0, 61, 0));
        due("what 3", OUTSIDE, x.year(0, 1, 3));
    }

    private static int seedOf(int by, int notBy) {
        for (int seed = 0; seed < 10000; seed++) {
            int drawn = (75 * seed + 74) % 65537;
            if (drawn % by == 0 && drawn % notBy != 0) {
                return seed;
            }
        }
        return -1;
    }

    private static int firstDraw(int by, int other) {
        int drawn = (75 * (by == 1 ? seedOf(7, 31) : seedOf(by, other)) + 74) % 65537;
        return drawn / 7 % 100;
    }

    private static void images() {
        ColourEcho x = new ColourEcho();
        x.wall(0, 1, 5);
        x.dress(1, 7, 8, 9);
        x.limit(123);
        x.seen(3, 45);
        Due.live(x, "r9.Bfs");
        due("kept", 1, x.image(1));
        due("the other was not", STATE, x.restore(0));
        Due.write(x, "y5y");
        Due.write(x, ".y9");
        x.done();
        x.wall(0, 9, 1);
        x.dress(1, 0, 0, 0);
        x.limit(500);
        x.forget();
        x.seen(1, 1);
        x.seen(2, 2);
        Due.write(x, "fff");
        due("as it was", 1, x.restore(1));
        int[] want = {3, 1, 123, 1, 1, 1, 2};
        for (int what = 0; what < want.length; what++) {
            due("told " + what, want[what], x.told(what));
        }
        due("off", 1, x.told(10));
        due("keeps", 5, x.told(11));
        due("dress", 8, x.told(201));
        due("the sight", 29, x.shown(0));
        due("sees", 7, x.sees(0));
        Due.live(x, "fs");
        due("days ahead too", 52, x.sees(0));
        due("an image stays", 1, x.restore(1));
        due("fog again", 1, x.told(4));
        due("kept anew", 1, x.image(0));
        for (int far : FAR) {
            due("image " + far, OUTSIDE, x.image(far));
            due("restore " + far, OUTSIDE, x.restore(far));
        }
        due("image 2", OUTSIDE, x.image(2));
        due("restore 2", OUTSIDE, x.restore(2));
    }

    private static ColourEcho manyColoured() {
        ColourEcho x = new ColourEcho();
        for (int wall = 0; wall < 4; wall++) {
            x.wall(wall, 9 - wall, wall + 3);
        }
        for (int dress = 0; dress < 6; dress++) {
            x.dress(dress, dress + 10, dress + 20, dress + 30);
        }
        return x;
    }

    private static void tolds() {
        ColourEcho x = manyColoured();
        for (int what = -2000; what <= 2000; what++) {
            // One object answers for 512 calls.
            x = what % 400 == 0 ? manyColoured() : x;
            int want = OUTSIDE;
            for (int wall = 0; wall < 4; wall++) {
                want = what == 10 * (1 + wall) ? 9 - wall : what == 10 * (1 + wall) + 1 ? wall + 3 : want;
            }
            for (int dress = 0; dress < 6; dress++) {
                for (int colour = 0; colour < 3; colour++) {
                    want = what == 100 * (1 + dress) + colour ? dress + 10 + 10 * colour : want;
                }
            }
            want = what >= 0 && what <= 6 ? what == 2 ? 500 : 0 : want;
            due("told " + what, want, x.told(what));
        }
        due("far", OUTSIDE, x.told(Integer.MIN_VALUE));
        due("far", OUTSIDE, x.told(Integer.MAX_VALUE));
    }

    private static void refusalsChangeNothing() {
        ColourEcho x = new ColourEcho();
        x.wall(0, 1, 5);
        x.dress(0, 1, 2, 3);
        Due.live(x, "r9A.Bf");
        Due.write(x, "r1w1");
        x.wall(0, 10, 3);
        x.dress(0, 1, 2, 100);
        x.limit(-1);
        x.say(32);
        x.done();
        x.seen(61, 3);
        x.image(2);
        x.restore(1);
        due("signs", 4, x.told(0));
        due("day", 1, x.told(1));
        due("limit", 500, x.told(2));
        due("sights", 0, x.told(3));
        due("fog", 1, x.told(4));
        due("worn", 2, x.told(6));
        due("off", 1, x.told(10));
        due("keeps", 5, x.told(11));
        due("blue", 3, x.told(102));
        due("shown", 0, x.sees(0));
    }
}
