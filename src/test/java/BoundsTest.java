import java.util.ArrayList;
import java.util.List;

/**
 * Every call with the least and the greatest of each told number, the one below and the one above it, in every mixture:
 * what is refused and what is not, which refusal comes first, and that a refused call changes nothing.
 */
public final class BoundsTest {
    private static final int NONE = -6, UNKNOWN = -1, OUTSIDE = -2, STATE = -3, FULL = -4, NO = -5;
    private static final long LOST = -1000000000000000000L;
    private static final int BATCH = 100;
    private static final Due DUE = new Due();

    /** Each call with the bounds of its numbers: U is refused as UNKNOWN, O as OUTSIDE, F not at all. */
    private static final String[] CALLS = {
        "wall U0:3 O1:9 O0:9", "dress U0:5 O0:99 O0:99 O0:99", "limit O0:999", "say O33:126", "judge O0:1",
        "behind O0:3", "sees O0:2", "forecast O0:2 O0:60", "hue O0:60", "make O0:2 O0:60 O0:999 O0:1",
        "wish U0:63 O0:60 O0:999999999 O0:1", "whiten O0:60 O0:999 O0:1", "apart U0:63 O0:60 F-1:14",
        "spoil U0:5 U0:5 O0:60", "seen O0:60 O0:999", "shown F-1:89", "look O0:1",
        "fogs O0:2 O0:8 O0:10 O0:999 O0:1 O0:1", "turns U0:63 O0:1", "year O0:9999 O1:60 O0:2", "image O0:1",
        "restore O0:1", "told O0:6"};

    public static void main(String[] args) {
        for (String told : CALLS) {
            String name = told.split(" ")[0];
            List<int[]> refused = new ArrayList<>();
            List<int[]> taken = new ArrayList<>();
            for (int[] with : mixtures(told.split(" "))) {
                (refusal(told.split(" "), with) == 0 ? taken : refused).add(with);
            }
            for (int state = 0; state < 3; state++) {
                refusedInTurn(told, refused, state);
                takenInTurn(name, taken, state);
            }
        }
        refusedByState();
        daysThatCanNotBe();
        emptyGorge();
        DUE.end();
    }

    /** A new gorge; one that is lived in; one in which all that can be refused is: a full pad with a fault, 8 sights. */
    private static Run gorge(int state) {
        Run run = new Run();
        if (state > 0) {
            run.ask("wall", 0, 1, 5);
            run.ask("wall", 2, 9, 7);
            run.ask("dress", 0, 10, 20, 30);
            run.ask("dress", 5, 99, 0, 1);
            run.ask("limit", 60);
            run.ask("image", 0);
            run.say("r9b5.AFy3");
            run.ask("done");
            run.ask("seen", 3, 45);
            run.say(".fr9r9w2");
        }
        if (state == 1) {
            run.ask("image", 1);
        }
        if (state == 2) {
            for (int n = 1; n < 8; n++) {
                run.ask("seen", 60, 0);
            }
            run.say(".".repeat(51) + "r");
        }
        return run;
    }

    private static List<int[]> mixtures(String[] told) {
        List<int[]> all = new ArrayList<>();
        all.add(new int[0]);
        for (int place = 1; place < told.length; place++) {
            List<int[]> longer = new ArrayList<>();
            for (int[] with : all) {
                for (int number : edges(told[place])) {
                    int[] more = java.util.Arrays.copyOf(with, place);
                    more[place - 1] = number;
                    longer.add(more);
                }
            }
            all = longer;
        }
        return all;
    }

    private static int least(String told) {
        return Integer.parseInt(told.substring(1).split(":")[0]);
    }

    private static int greatest(String told) {
        return Integer.parseInt(told.substring(1).split(":")[1]);
    }

    private static int[] edges(String told) {
        return new int[] {Integer.MIN_VALUE, least(told) - 1, least(told), greatest(told), greatest(told) + 1, Integer.MAX_VALUE};
    }

    /** The first refusal of the document's row that fits, 0 if none does. */
    private static int refusal(String[] told, int[] with) {
        boolean outside = false;
        boolean unknown = told[0].equals("spoil") && with[0] == with[1];
        for (int i = 0; i < with.length; i++) {
            String bounds = told[i + 1];
            boolean beyond = with[i] < least(bounds) || with[i] > greatest(bounds);
            unknown = unknown || beyond && bounds.charAt(0) == 'U';
            outside = outside || beyond && bounds.charAt(0) == 'O';
        }
        return unknown ? UNKNOWN : outside ? OUTSIDE : 0;
    }

    private static String call(String name, int[] with, int state) {
        return name + java.util.Arrays.toString(with) + " in gorge " + state;
    }

    private static void refusedInTurn(String told, List<int[]> refused, int state) {
        String[] parts = told.split(" ");
        long base = parts[0].equals("fogs") ? LOST : 0;
        String before = gorge(state).all();
        for (int first = 0; first < refused.size(); first += BATCH) {
            Run run = gorge(state);
            for (int i = first; i < refused.size() && i < first + BATCH; i++) {
                int[] with = refused.get(i);
                DUE.is(call(parts[0], with, state), base + refusal(parts, with), run.ask(parts[0], with));
            }
            String behind = run.all();
            DUE.is(parts[0] + " refused changed " + before + " to " + behind, 1, before.equals(behind) ? 1 : 0);
        }
    }

    /** What is as told is refused for its state alone, and the same in every gorge of that state. */
    private static void takenInTurn(String name, List<int[]> taken, int state) {
        for (int[] with : taken) {
            long got = gorge(state).ask(name, with);
            long want = got;
            if (state == 2 && (name.equals("say") || name.equals("seen"))) {
                want = FULL;
            } else if (state == 2 && (name.equals("judge") || name.equals("behind"))) {
                want = NO;
            } else if (name.equals("restore")) {
                want = state == 1 || state == 2 && with[0] == 0 ? 1 : STATE;
            } else if (name.equals("image")) {
                want = 1;
            } else if (got < 0) {
                want = NONE;
            }
            DUE.is(call(name, with, state), want, got);
        }
    }

    private static void refusedByState() {
        String before = gorge(2).all();
        Run run = gorge(2);
        DUE.is("say behind the 60th", FULL, run.ask("say", '.'));
        DUE.is("seen behind the 8th", FULL, run.ask("seen", 0, 0));
        DUE.is("judge of a fault", NO, run.ask("judge", 0));
        DUE.is("why of a fault", NO, run.ask("judge", 1));
        DUE.is("done of a fault", NO, run.ask("done"));
        DUE.is("broken of a fault", NO, run.ask("broken"));
        for (int what = 0; what < 4; what++) {
            DUE.is("behind of a fault " + what, NO, run.ask("behind", what));
        }
        DUE.is("an image that was not kept", STATE, run.ask("restore", 1));
        String behind = run.all();
        DUE.is("refused by state changed " + before + " to " + behind, 1, before.equals(behind) ? 1 : 0);
    }

    /** An act that can not be leaves even the acts ahead of it undone. */
    private static void daysThatCanNotBe() {
        Run untouched = new Run();
        untouched.say("r5f.y1w3");
        Run run = new Run();
        run.say("r5f.y1w3");
        DUE.is("done that can not be", NO, run.ask("done"));
        DUE.is("broken that can not be", NO, run.ask("broken"));
        DUE.is("behind that can not be", NO, run.ask("behind", 0));
        DUE.is("judge tells it", 4, run.ask("judge", 0));
        DUE.is("all as it was", 1, untouched.all().equals(run.all()) ? 1 : 0);
    }

    /** The calls without numbers where there is nothing: no pad, no colour, no sight. */
    private static void emptyGorge() {
        Run empty = new Run();
        DUE.is("wipe", 0, empty.ask("wipe"));
        DUE.is("fault", NONE, empty.ask("fault"));
        DUE.is("done", 0, empty.ask("done"));
        DUE.is("broken", NONE, empty.ask("broken"));
        DUE.is("gone", 0, empty.ask("gone"));
        DUE.is("forget", 0, empty.ask("forget"));
    }
}
