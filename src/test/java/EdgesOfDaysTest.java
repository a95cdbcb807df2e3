/** The boundary cases of the document's section 1 and of promises 1 to 7: walls, dresses, limit, the pad, its acts. */
public final class EdgesOfDaysTest {
    private static final int NONE = -6, UNKNOWN = -1, OUTSIDE = -2, FULL = -4, NO = -5;
    private static final Due DUE = new Due();

    public static void main(String[] args) {
        atFirst();
        offAtItsEnds();
        keepsAtItsEnds();
        wallsTellWhatTheyKept();
        nothingAheadOfDayZero();
        cutWallByWall();
        at999InAll();
        at1000Exactly();
        fogIsTodaysAlone();
        fogHidesButForgetsNothing();
        snowForgetsWhatIsAhead();
        snowKeepsItsOwnDay();
        snowAndFogAtOnce();
        dressesAtTheirEnds();
        lettersOfDresses();
        limitAtItsEnds();
        emptyPad();
        fullPad();
        signsAtTheirEnds();
        everyFirstSign();
        everySecondSign();
        faultsOfAFullPad();
        theFirstOfTwoFaults();
        tensFromOneToNine();
        whitenedFromNowOn();
        DUE.end();
    }

    private static void due(String call, long want, long got) {
        DUE.is(call, want, got);
    }

    /** "It is day 0 at first", "WALL w by w and 1 at first", "0 at first", "500 at first". */
    private static void atFirst() {
        ColourEcho x = new ColourEcho();
        due("day", 0, x.told(1));
        due("wall 0 is off by 1", 1, x.told(10));
        due("wall 3 is off by 4", 4, x.told(40));
        due("wall 0 keeps 0", 0, x.told(11));
        due("wall 3 keeps 0", 0, x.told(41));
        due("the first dress", 0, x.told(100));
        due("the last dress", 0, x.told(602));
        due("limit", 500, x.told(2));
        Due.live(x, "r9y9b9.");
        due("walls that keep nothing", 0, x.sees(0) + x.sees(1) + x.sees(2));
        for (int wall = 0; wall < 4; wall++) {
            ColourEcho one = new ColourEcho();
            one.wall(wall, one.told(10 * (1 + wall)), 9);
            Due.live(one, "r9");
            due("it comes back by wall " + wall, 81, one.forecast(0, wall + 1));
        }
    }

    /** "each OFF by 1 to 9 days". */
    private static void offAtItsEnds() {
        for (int wall = 0; wall < 4; wall++) {
            for (int off = 1; off <= 9; off++) {
                ColourEcho x = new ColourEcho();
                due("taken", 0, x.wall(wall, off, 9));
                Due.live(x, "y9");
                due("a day too early", off == 1 ? 90 : 0, x.forecast(1, off - 1));
                due("on the day", 81, x.forecast(1, off));
                due("a day too late", off == 1 ? 72 : 0, x.forecast(1, off + 1));
                Due.pass(x, off);
                due("and so it was", 81, x.sees(1));
            }
            ColourEcho x = new ColourEcho();
            due("off 0", OUTSIDE, x.wall(wall, 0, 9));
            due("off 10", OUTSIDE, x.wall(wall, 10, 9));
        }
    }

    /** "KEEPS 0 to 9 tenths". */
    private static void keepsAtItsEnds() {
        for (int keeps = 0; keeps <= 9; keeps++) {
            ColourEcho x = new ColourEcho();
            x.wall(3, 1, keeps);
            Due.live(x, "b9.");
            due("tenths " + keeps, 9 * keeps, x.sees(2));
        }
        ColourEcho x = new ColourEcho();
        due("keeps -1", OUTSIDE, x.wall(3, 1, -1));
        due("keeps 10", OUTSIDE, x.wall(3, 1, 10));
    }

    /** "OFF, KEEPS of a WALL: which it KEPT": tenths, and of that wall. */
    private static void wallsTellWhatTheyKept() {
        ColourEcho x = new ColourEcho();
        due("at first", 0, x.wall(1, 9, 9));
        due("then", 9, x.wall(1, 8, 0));
        due("then", 0, x.wall(1, 7, 1));
        due("another wall", 0, x.wall(0, 7, 1));
        Due.live(x, "w1");
        due("whitened", 0, x.wall(1, 7, 2));
        due("wall -1", UNKNOWN, x.wall(-1, 7, 2));
        due("wall 4", UNKNOWN, x.wall(4, 7, 2));
        due("unknown comes first", UNKNOWN, x.wall(4, 10, 10));
    }

    /** "on days ahead of it nothing was SEEN". */
    private static void nothingAheadOfDayZero() {
        ColourEcho x = new ColourEcho();
        for (int wall = 0; wall < 4; wall++) {
            x.wall(wall, 9, 9);
        }
        for (int day = 0; day < 12; day++) {
            due("day " + day, 0, x.sees(0) + x.sees(1) + x.sees(2));
            due("forecast from day " + day, 0, x.forecast(0, 9));
            Due.live(x, ".");
        }
    }

    /** "so many tenths (cut, WALL by WALL)". */
    private static void cutWallByWall() {
        ColourEcho x = new ColourEcho();
        x.dress(0, 1, 9, 19);
        for (int wall = 0; wall < 4; wall++) {
            x.wall(wall, 1, 5);
        }
        Due.live(x, "A.");
        due("four times 0 of 1", 0, x.sees(0));
        due("four times 4 of 9", 16, x.sees(1));
        due("four times 9 of 19", 36, x.sees(2));
        due("forecasts too", 4 * 8, x.forecast(1, 1));
    }

    /** "999 at most in all", which is also what comes back of it. */
    private static void at999InAll() {
        ColourEcho x = new ColourEcho();
        x.dress(0, 8, 9, 10);
        x.wall(0, 1, 9);
        Due.live(x, ("r9y9").repeat(11));
        Due.live(x, "A.");
        due("898 off the wall", 9 * 998 / 10, x.sees(0));
        due("899 off the wall", 899, x.sees(1));
        Due.live(x, "y9A");
        due("899 and 99: 998", 998, x.sees(1));
        Due.live(x, "r9r1");
        due("898 and 108: 999 at most", 999, x.sees(0));
        due("nor more tomorrow than 9 tenths of 999", 899, x.forecast(0, 1));
        Due.live(x, ".");
        due("and so it was", 899, x.sees(0));
    }

    private static void at1000Exactly() {
        ColourEcho x = new ColourEcho();
        x.dress(0, 9, 1, 0);
        Due.show990(x, "r");
        Due.live(x, "A");
        x.wall(0, 1, 9);
        Due.live(x, ".r9r1");
        due("899 and 100", 999, x.sees(0));
        x.dress(0, 1, 0, 0);
        Due.live(x, "A");
        due("899 and 101", 999, x.sees(0));
        ColourEcho four = new ColourEcho();
        for (int wall = 0; wall < 4; wall++) {
            four.wall(wall, 1, 5);
        }
        Due.live(four, "b9b9b9b9b9b5");
        due("four times 250", 999, four.forecast(2, 1));
        Due.live(four, ".");
        due("and so it was", 999, four.sees(2));
    }

    /** "On a day of FOG nothing comes off WALLS": what is shown is SEEN, and the next day is clear. */
    private static void fogIsTodaysAlone() {
        ColourEcho x = new ColourEcho();
        x.wall(0, 1, 9);
        Due.live(x, "r5.f");
        due("nothing off walls", 0, x.sees(0));
        due("told", 1, x.told(4));
        Due.live(x, "r2");
        due("what is shown", 20, x.sees(0));
        Due.live(x, "f");
        due("it is not any more", 45 + 20, x.sees(0));
        due("told", 0, x.told(4));
        Due.live(x, "f.");
        due("not on the next day", 0, x.told(4));
        due("of which 20 come back", 18, x.sees(0));
    }

    private static void fogHidesButForgetsNothing() {
        ColourEcho x = new ColourEcho();
        x.wall(0, 2, 5);
        Due.live(x, "r8.f.");
        due("over the fog", 40, x.sees(0));
        due("but not off the fog's own day", 0, x.forecast(0, 1));
        Due.live(x, "f");
        due("fog then", 0, x.sees(0));
        due("what fog hid is not SEEN, and comes back from nowhere", 0, x.forecast(0, 2));
    }

    /** "what was SEEN on days ahead of it comes back on no day behind it either". */
    private static void snowForgetsWhatIsAhead() {
        for (int off = 2; off <= 9; off++) {
            ColourEcho x = new ColourEcho();
            x.wall(0, off, 9);
            Due.live(x, "b9.s");
            due("told", 1, x.told(5));
            due("forecast over snow", 0, x.forecast(2, off - 1));
            due("gone", 0, x.gone());
            due("snow today counts in fogs", 0, x.fogs(2, Math.min(8, off - 1), 0, 0, 1, 0));
            Due.live(x, ".");
            due("not on the next day", 0, x.told(5));
            due("on no day behind", 0, x.forecast(2, off - 2));
            Due.pass(x, off - 2);
            due("and so it was", 0, x.sees(2));
        }
        ColourEcho gone = new ColourEcho();
        gone.wall(0, 2, 9);
        Due.live(gone, "b9.ss.");
        due("snow that is not any more", 81, gone.sees(2));
    }

    private static void snowKeepsItsOwnDay() {
        ColourEcho x = new ColourEcho();
        x.wall(0, 1, 9);
        x.wall(1, 9, 5);
        Due.live(x, "sb4");
        due("on day 0", 40, x.sees(2));
        due("off wall 0", 36, x.forecast(2, 1));
        due("off wall 1", 20 + offNine(40), x.forecast(2, 9));
        Due.live(x, ".s");
        due("new snow", 0, x.sees(2));
        due("forgets it", 0, x.forecast(2, 8));
    }

    /** What nine days off a wall of 9 tenths leave. */
    private static int offNine(int of) {
        int left = of;
        for (int day = 0; day < 9; day++) {
            left = left * 9 / 10;
        }
        return left;
    }

    private static void snowAndFogAtOnce() {
        ColourEcho x = new ColourEcho();
        x.wall(0, 1, 9);
        x.wall(1, 2, 5);
        Due.live(x, "y8.fs");
        due("both", 0, x.sees(1));
        Due.live(x, "f");
        due("snow alone", 0, x.sees(1));
        Due.live(x, "fs");
        due("fog alone", 0, x.sees(1));
        due("fog forgets nothing", 40, x.forecast(1, 1));
        Due.live(x, "f");
        due("neither", 72, x.sees(1));
    }

    /** "each of so much (0 to 99) of each COLOUR", "how much of all COLOURS it had". */
    private static void dressesAtTheirEnds() {
        ColourEcho x = new ColourEcho();
        due("0 of all", 0, x.dress(0, 99, 99, 99));
        due("297 of all", 297, x.dress(0, 0, 0, 0));
        due("0 again", 0, x.dress(0, 0, 0, 99));
        due("99 of one", 99, x.dress(0, 0, 99, 0));
        due("dress -1", UNKNOWN, x.dress(-1, 1, 1, 1));
        due("dress 6", UNKNOWN, x.dress(6, 1, 1, 1));
        due("unknown comes first", UNKNOWN, x.dress(6, 100, -1, 100));
        for (int colour = 0; colour < 3; colour++) {
            int at = colour;
            due("-1 of " + at, OUTSIDE, x.dress(0, at == 0 ? -1 : 5, at == 1 ? -1 : 5, at == 2 ? -1 : 5));
            due("100 of " + at, OUTSIDE, x.dress(0, at == 0 ? 100 : 5, at == 1 ? 100 : 5, at == 2 ? 100 : 5));
        }
        due("as it was", 99, x.told(101));
        due("as it was", 0, x.told(100) + x.told(102));
    }

    /** "DRESSES 0 to 5 (A to F)". */
    private static void lettersOfDresses() {
        ColourEcho x = new ColourEcho();
        for (int dress = 0; dress < 6; dress++) {
            x.dress(dress, dress + 1, 10 * dress, 99);
        }
        int red = 0;
        for (int dress = 0; dress < 6; dress++) {
            red += dress + 1;
            due("worn", 1, Due.live(x, String.valueOf((char) ('A' + dress))));
            due("which", (2 << dress) - 1, x.told(6));
            due("red", red, x.sees(0));
            due("blue", 99 * (dress + 1), x.sees(2));
        }
    }

    /** "LIMIT (0 to 999; 500 at first)". */
    private static void limitAtItsEnds() {
        ColourEcho x = new ColourEcho();
        due("at first", 500, x.limit(0));
        due("0", 0, x.limit(999));
        due("999", 999, x.limit(998));
        due("-1", OUTSIDE, x.limit(-1));
        due("1000", OUTSIDE, x.limit(1000));
        due("as it was", 998, x.limit(0));
    }

    private static void emptyPad() {
        ColourEcho x = new ColourEcho();
        due("signs", 0, x.told(0));
        due("fault", NONE, x.fault());
        due("act", NONE, x.judge(0));
        due("why", NONE, x.judge(1));
        due("behind", 0, x.behind(0));
        due("day behind", 0, x.behind(3));
        due("broken", NONE, x.broken());
        due("wipe", 0, x.wipe());
        due("done", 0, x.done());
        due("day", 0, x.told(1));
    }

    /** "60 SIGNS at most". */
    private static void fullPad() {
        ColourEcho x = new ColourEcho();
        for (int n = 1; n <= 59; n++) {
            due("sign " + n, n, x.say('.'));
        }
        due("the 60th", 60, x.say('s'));
        due("the 61st", FULL, x.say('.'));
        due("still", FULL, x.say('r'));
        due("outside comes first", OUTSIDE, x.say(32));
        due("outside comes first", OUTSIDE, x.say(127));
        due("signs", 60, x.told(0));
        due("no fault", NONE, x.fault());
        due("day behind", 59, x.behind(3));
        due("acts", 60, x.done());
        due("the last one too", 1, x.told(5));
        due("room again", 1, x.say('.'));
        due("wiped", 1, x.wipe());
        due("room again", 1, x.say('.'));
    }

    /** "codes 33 to 126". */
    private static void signsAtTheirEnds() {
        ColourEcho x = new ColourEcho();
        due("32", OUTSIDE, x.say(32));
        due("33", 1, x.say(33));
        due("126", 2, x.say(126));
        due("127", OUTSIDE, x.say(127));
        due("no wrap-around", OUTSIDE, x.say('.' + 256));
        due("no wrap-around", OUTSIDE, x.say('.' + 65536));
        due("two", 2, x.wipe());
    }

    private static void everyFirstSign() {
        for (char sign = 33; sign <= 126; sign++) {
            ColourEcho x = new ColourEcho();
            x.say(sign);
            int want = "ABCDEFfs.".indexOf(sign) >= 0 ? NONE : "rybw".indexOf(sign) >= 0 ? 1 : 0;
            due("first " + sign, want, x.fault());
            due("done of " + sign, sign == '.' || want == NONE ? 1 : NO, x.done());
        }
    }

    /** "r, y or b and a digit 1 to 9", "w and a digit 0 to 3". */
    private static void everySecondSign() {
        for (char head : "rybw".toCharArray()) {
            for (char sign = 33; sign <= 126; sign++) {
                ColourEcho x = new ColourEcho();
                x.say('.');
                x.say(head);
                x.say(sign);
                boolean fits = (head == 'w' ? "0123" : "123456789").indexOf(sign) >= 0;
                due("second " + head + sign, fits ? NONE : 2, x.fault());
                due("judge of " + head + sign, !fits ? NO : head == 'w' ? 1 : NONE, x.judge(0));
            }
        }
    }

    /** "the number of signs, if more must come": also of a pad that takes no more. */
    private static void faultsOfAFullPad() {
        String[] ends = {"ff", "r9", "fr", "fw", "fx", "r0", "xf", "w4"};
        int[] want = {NONE, NONE, 60, 60, 59, 59, 58, 59};
        for (int i = 0; i < ends.length; i++) {
            ColourEcho x = new ColourEcho();
            Due.write(x, "f".repeat(58) + ends[i]);
            due("fault of " + ends[i], want[i], x.fault());
            due("nothing more", FULL, x.say('1'));
            due("fault stays", want[i], x.fault());
        }
    }

    private static void theFirstOfTwoFaults() {
        ColourEcho x = new ColourEcho();
        Due.write(x, ".xGr");
        due("the first", 1, x.fault());
        Due.write(x, "r0r");
        due("the digit", 1, x.fault());
        Due.write(x, "AA.r");
        due("an act that can not be is no fault", 4, x.fault());
        due("and the fault comes first", NO, x.judge(0));
    }

    /** "so many tens more of that COLOUR". */
    private static void tensFromOneToNine() {
        for (int tens = 1; tens <= 9; tens++) {
            for (int colour = 0; colour < 3; colour++) {
                ColourEcho x = new ColourEcho();
                Due.live(x, "ryb".substring(colour, colour + 1) + tens);
                for (int other = 0; other < 3; other++) {
                    due("tens " + tens, other == colour ? 10 * tens : 0, x.sees(other));
                }
                Due.live(x, "ryb".substring(colour, colour + 1) + tens);
                due("as many more", 20 * tens, x.sees(colour));
            }
        }
    }

    /** "that WALL is whitened: it KEEPS 0 from now on". */
    private static void whitenedFromNowOn() {
        for (int wall = 0; wall < 4; wall++) {
            ColourEcho x = new ColourEcho();
            for (int each = 0; each < 4; each++) {
                x.wall(each, 1, 2);
            }
            Due.live(x, "r9.");
            due("72 off four", 72, x.sees(0));
            Due.live(x, "w" + wall);
            due("54 off three", 54, x.sees(0));
            for (int each = 0; each < 4; each++) {
                due("keeps", each == wall ? 0 : 2, x.told(10 * each + 11));
                due("off", 1, x.told(10 * each + 10));
            }
            Due.live(x, ".");
            due("from now on", 30, x.sees(0));
        }
    }
}
