/** What the tests share: a count of answers that are not as due, and ways to write runs shortly. */
final class Due {
    private int wrong = 0;
    private int asked = 0;

    void is(String call, long want, long got) {
        asked++;
        if (got != want) {
            wrong++;
            if (wrong <= 40) {
                System.out.println(call + " answered " + got + ", due is " + want);
            }
        }
    }

    int wrong() {
        return wrong;
    }

    int asked() {
        return asked;
    }

    /** Prints the sum and ends the machine with 1 if an answer was wrong. */
    void end() {
        System.out.println(asked + " answers, " + wrong + " not as due");
        if (wrong != 0) {
            System.exit(1);
        }
    }

    /** Wipes the pad and writes a text on it. */
    static void write(ColourEcho x, String text) {
        x.wipe();
        for (int i = 0; i < text.length(); i++) {
            x.say(text.charAt(i));
        }
    }

    /** Writes a text and does it. */
    static int live(ColourEcho x, String text) {
        write(x, text);
        return x.done();
    }

    /** So many days go by in which nothing is shown. */
    static void pass(ColourEcho x, int days) {
        for (int left = days; left > 0; left -= 60) {
            live(x, ".".repeat(Math.min(60, left)));
        }
    }

    /** Shows 990 of a colour (its letter) today. */
    static void show990(ColourEcho x, String colour) {
        live(x, (colour + "9").repeat(11));
    }
}
