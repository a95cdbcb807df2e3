/**
 * The gorge in which a colour that was shown comes back off the walls days later.
 * The words of DOC.md are kept: a day "ahead" is an earlier one, a day "behind" a later one.
 */
public final class ColourEcho {
    public static final int NONE = -6, UNKNOWN = -1, OUTSIDE = -2, STATE = -3, FULL = -4, NO = -5;
    public static final long LOST = -1000000000000000000L;

    private static final int COLOURS = 3, WALLS = 4, DRESSES = 6;
    private static final int MOST_SEEN = 999, MOST_DRESS = 99, MOST_OFF = 9, MOST_KEEPS = 9, TENTHS = 10;
    private static final int LAST_DAY = 99, HORIZON = 60, SIGNS = 60, SIGHTS = 8;
    private static final int ALL_DRESSES = (1 << DRESSES) - 1, ALL_WALLS = (1 << WALLS) - 1;
    private static final int FOG_DAYS = 8, SHOW_DAYS = 10, MOST_TENS = 9;
    private static final int MOST_WISH = 999999999, MOST_SEED = 9999, IMAGES = 2;
    private static final int SPOIL_BASE = 3000;
    private static final int TOO_MUCH = 1, WORN = 2, WHITE = 3, NO_DAY_LEFT = 4;

    private final Gorge gorge = new Gorge();
    private final Gorge scratch = new Gorge();
    private final Pad pad = new Pad();
    private final Days days = new Days();
    private final Course course = new Course();
    private final Guesses guesses = new Guesses();
    private final Game game = new Game();
    private final Gorge image0 = new Gorge(), image1 = new Gorge();
    private final boolean[] kept = new boolean[IMAGES];
    private final int[] echoes = new int[DRESSES * COLOURS];

    public ColourEcho() {
    }

    // ---- 1 walls, dresses, days

    public int wall(int wall, int off, int keeps) {
        if (!isWall(wall)) {
            return UNKNOWN;
        }
        if (!isWithin(off, 1, MOST_OFF) || !isWithin(keeps, 0, MOST_KEEPS)) {
            return OUTSIDE;
        }
        int was = gorge.keeps[wall];
        gorge.off[wall] = off;
        gorge.keeps[wall] = keeps;
        return was;
    }

    public int dress(int dress, int red, int yellow, int blue) {
        if (!isDress(dress)) {
            return UNKNOWN;
        }
        if (!isWithin(red, 0, MOST_DRESS) || !isWithin(yellow, 0, MOST_DRESS) || !isWithin(blue, 0, MOST_DRESS)) {
            return OUTSIDE;
        }
        int was = gorge.worth(dress, 0) + gorge.worth(dress, 1) + gorge.worth(dress, 2);
        gorge.dresses[dress * COLOURS] = red;
        gorge.dresses[dress * COLOURS + 1] = yellow;
        gorge.dresses[dress * COLOURS + 2] = blue;
        return was;
    }

    public int limit(int v) {
        if (!isAmount(v)) {
            return OUTSIDE;
        }
        int was = gorge.most;
        gorge.most = v;
        return was;
    }

    public int say(int sign) {
        if (!isWithin(sign, 33, 126)) {
            return OUTSIDE;
        }
        if (pad.count >= SIGNS) {
            return FULL;
        }
        pad.signs[pad.count] = sign;
        pad.count++;
        return pad.count;
    }

    public int wipe() {
        int were = pad.count;
        pad.count = 0;
        return were;
    }

    public int fault() {
        return pad.faultPlace();
    }

    // ---- 2 days

    public int judge(int what) {
        if (!isWithin(what, 0, 1)) {
            return OUTSIDE;
        }
        if (pad.faultPlace() != NONE) {
            return NO;
        }
        days.play(gorge, pad);
        if (days.reason == 0) {
            return NONE;
        }
        return what == 0 ? days.acts : days.reason;
    }

    public int done() {
        if (!daysCanBe()) {
            return NO;
        }
        gorge.become(days.end);
        pad.count = 0;
        return days.acts;
    }

    public int behind(int what) {
        if (!isWithin(what, 0, COLOURS)) {
            return OUTSIDE;
        }
        if (!daysCanBe()) {
            return NO;
        }
        return what == COLOURS ? days.end.day : days.end.seenToday(what, 0);
    }

    public int broken() {
        return daysCanBe() ? days.firstOver : NO;
    }

    public int sees(int colour) {
        return isColour(colour) ? gorge.seenToday(colour, 0) : OUTSIDE;
    }

    public int forecast(int colour, int d) {
        if (!isColour(colour) || !isAhead(d)) {
            return OUTSIDE;
        }
        return seenWith(colour, d, 0);
    }

    public int gone() {
        int first = 0;
        for (int colour = 0; colour < COLOURS; colour++) {
            course.fromNow(gorge, colour, 0);
            course.run(gorge, HORIZON, 0);
            first = Math.max(first, course.lastSeen() + 1);
        }
        return first > HORIZON ? NONE : first;
    }

    public int hue(int d) {
        if (!isAhead(d)) {
            return OUTSIDE;
        }
        int best = NONE;
        int most = 0;
        for (int colour = 0; colour < COLOURS; colour++) {
            int seen = seenWith(colour, d, 0);
            if (seen > most) {
                most = seen;
                best = colour;
            }
        }
        return best;
    }

    // ---- 3 shows, wishes

    public int make(int colour, int d, int v, int what) {
        if (!isColour(colour) || !isAhead(d) || !isAmount(v) || !isWithin(what, 0, 1)) {
            return OUTSIDE;
        }
        int least = leastShow(colour, d, v);
        if (least > MOST_SEEN) {
            return NONE;
        }
        return what == 0 ? least : seenWith(colour, d, least);
    }

    public int wish(int set, int d, int wish, int what) {
        if (!isSet(set)) {
            return UNKNOWN;
        }
        if (!isAhead(d) || !isWithin(wish, 0, MOST_WISH) || !isWithin(what, 0, 1)) {
            return OUTSIDE;
        }
        int bestSet = 0;
        int best = wishDifference(0, d, wish);
        for (int some = 1; some <= set; some++) {
            if ((some & ~set) == 0) {
                int difference = wishDifference(some, d, wish);
                if (difference < best) {
                    best = difference;
                    bestSet = some;
                }
            }
        }
        return what == 0 ? best : bestSet;
    }

    public int whiten(int d, int v, int what) {
        if (!isAhead(d) || !isAmount(v) || !isWithin(what, 0, 1)) {
            return OUTSIDE;
        }
        int bestSet = NONE;
        int fewest = WALLS + 1;
        for (int set = 0; set <= ALL_WALLS; set++) {
            int size = Integer.bitCount(set);
            if (size < fewest && fadesWithout(set, d, v)) {
                fewest = size;
                bestSet = set;
            }
        }
        if (bestSet == NONE) {
            return NONE;
        }
        return what == 0 ? fewest : bestSet;
    }

    public int apart(int set, int d, int i) {
        if (!isSet(set)) {
            return UNKNOWN;
        }
        if (!isAhead(d)) {
            return OUTSIDE;
        }
        fillEchoes(d);
        int count = 0;
        for (int less = 0; less < DRESSES; less++) {
            for (int more = less + 1; more < DRESSES; more++) {
                if (has(set, less) && has(set, more) && echoAlike(less, more)) {
                    if (count == i) {
                        return 10 * less + more;
                    }
                    count++;
                }
            }
        }
        return i == -1 ? count : NONE;
    }

    public int spoil(int dress, int other, int d) {
        if (!isDress(dress) || !isDress(other) || dress == other) {
            return UNKNOWN;
        }
        if (!isAhead(d)) {
            return OUTSIDE;
        }
        int more = SPOIL_BASE;
        for (int colour = 0; colour < COLOURS; colour++) {
            int one = gorge.worth(dress, colour);
            int two = gorge.worth(other, colour);
            more += echoAlone(one + two, d) - echoAlone(one, d) - echoAlone(two, d);
        }
        return more;
    }

    // ---- 4 what was shown, fogs

    public int seen(int day, int v) {
        if (!isAhead(day) || !isAmount(v)) {
            return OUTSIDE;
        }
        if (gorge.sights >= SIGHTS) {
            return FULL;
        }
        gorge.sightDays[gorge.sights] = day;
        gorge.sightAmounts[gorge.sights] = v;
        gorge.sights++;
        return gorge.sights;
    }

    public int forget() {
        int were = gorge.sights;
        gorge.sights = 0;
        return were;
    }

    public int shown(int i) {
        guesses.gather(gorge, course);
        if (i == -1) {
            return guesses.count;
        }
        return isWithin(i, 0, guesses.count - 1) ? guesses.fitting[i] : NONE;
    }

    public int look(int what) {
        if (!isWithin(what, 0, 1)) {
            return OUTSIDE;
        }
        guesses.gather(gorge, course);
        if (guesses.count == 0) {
            return NONE;
        }
        int bestDay = 0;
        int fewest = guesses.mostLeft(0);
        for (int day = 1; day <= HORIZON; day++) {
            int left = guesses.mostLeft(day);
            if (left < fewest) {
                fewest = left;
                bestDay = day;
            }
        }
        return what == 0 ? bestDay : fewest;
    }

    public long fogs(int colour, int d, int t, int v, int what, int part) {
        boolean chanceTold = isWithin(d, 0, FOG_DAYS) && isWithin(t, 0, TENTHS);
        boolean answerTold = isWithin(what, 0, 1) && isWithin(part, 0, 1);
        if (!isColour(colour) || !chanceTold || !isAmount(v) || !answerTold) {
            return LOST + OUTSIDE;
        }
        course.fromNow(gorge, colour, 0);
        long upper = 0;
        for (int fogs = 0; fogs < 1 << d; fogs++) {
            long weight = fogWeight(fogs, d, t);
            if (weight > 0) {
                course.run(gorge, d, fogs);
                int seen = course.at(d);
                upper += what == 1 ? weight * seen : seen >= v ? weight : 0;
            }
        }
        long lower = power(TENTHS, d);
        long shared = commonDivisor(upper, lower);
        if (shared < 1) {
            return LOST + OUTSIDE;
        }
        return part == 0 ? upper / shared : lower / shared;
    }

    public int turns(int set, int what) {
        if (!isSet(set)) {
            return UNKNOWN;
        }
        if (!isWithin(what, 0, 1)) {
            return OUTSIDE;
        }
        game.solve(gorge, set);
        return what == 0 ? game.winner() : game.opening();
    }

    public int year(int seed, int m, int what) {
        if (!isWithin(seed, 0, MOST_SEED) || !isWithin(m, 1, HORIZON) || !isWithin(what, 0, 2)) {
            return OUTSIDE;
        }
        scratch.become(gorge);
        int x = seed;
        int over = 0;
        int most = 0;
        for (int day = 0; day < m; day++) {
            x = (75 * x + 74) % 65537;
            scratch.endDay();
            scratch.draw(x);
            over += scratch.isOver() ? 1 : 0;
            most = Math.max(most, scratch.mostSeen());
        }
        if (what == 0) {
            return scratch.seenToday(0, 0) + scratch.seenToday(1, 0) + scratch.seenToday(2, 0);
        }
        return what == 1 ? over : most;
    }

    public int image(int n) {
        if (!isWithin(n, 0, IMAGES - 1)) {
            return OUTSIDE;
        }
        imageOf(n).become(gorge);
        kept[n] = true;
        return 1;
    }

    public int restore(int n) {
        if (!isWithin(n, 0, IMAGES - 1)) {
            return OUTSIDE;
        }
        if (!kept[n]) {
            return STATE;
        }
        gorge.become(imageOf(n));
        return 1;
    }

    public int told(int what) {
        if (isWithin(what, 0, 6)) {
            return toldOfToday(what);
        }
        int wall = what / 10 - 1;
        if (isWall(wall) && isWithin(what % 10, 0, 1)) {
            return what % 10 == 0 ? gorge.off[wall] : gorge.keeps[wall];
        }
        int dress = what / 100 - 1;
        if (isDress(dress) && isColour(what % 100)) {
            return gorge.worth(dress, what % 100);
        }
        return OUTSIDE;
    }

    // ---- what is as told

    private static boolean isWithin(int number, int least, int most) {
        return number >= least && number <= most;
    }

    private static boolean isColour(int colour) {
        return isWithin(colour, 0, COLOURS - 1);
    }

    private static boolean isWall(int wall) {
        return isWithin(wall, 0, WALLS - 1);
    }

    private static boolean isDress(int dress) {
        return isWithin(dress, 0, DRESSES - 1);
    }

    private static boolean isSet(int set) {
        return isWithin(set, 0, ALL_DRESSES);
    }

    private static boolean isAmount(int v) {
        return isWithin(v, 0, MOST_SEEN);
    }

    private static boolean isAhead(int d) {
        return isWithin(d, 0, HORIZON);
    }

    private static boolean has(int set, int member) {
        return (set >> member & 1) == 1;
    }

    private static int capped(int amount) {
        return amount > MOST_SEEN ? MOST_SEEN : amount;
    }

    // ---- days, shows, wishes

    /** Plays the pad on a copy, so that done, behind and broken answer of the very same days. */
    private boolean daysCanBe() {
        if (pad.faultPlace() != NONE) {
            return false;
        }
        days.play(gorge, pad);
        return days.reason == 0;
    }

    private int seenWith(int colour, int d, int more) {
        course.fromNow(gorge, colour, more);
        course.run(gorge, d, 0);
        return course.at(d);
    }

    private int echoAlone(int amount, int d) {
        course.fromNothing(amount);
        course.run(gorge, d, 0);
        return course.at(d);
    }

    /** More shown never makes less seen later, so halving finds the least; MOST_SEEN + 1: none will do. */
    private int leastShow(int colour, int d, int v) {
        int low = 0;
        int high = MOST_SEEN + 1;
        for (int step = 0; step < 20 && low < high; step++) {
            int middle = (low + high) / 2;
            if (seenWith(colour, d, middle) >= v) {
                high = middle;
            } else {
                low = middle + 1;
            }
        }
        return low;
    }

    private int wishDifference(int set, int d, int wish) {
        int red = seenWith(0, d, gorge.worthOfSet(set, 0));
        int yellow = seenWith(1, d, gorge.worthOfSet(set, 1));
        int blue = seenWith(2, d, gorge.worthOfSet(set, 2));
        return Math.abs(red - wish / 1000000) + Math.abs(yellow - wish / 1000 % 1000) + Math.abs(blue - wish % 1000);
    }

    private boolean fadesWithout(int white, int d, int v) {
        scratch.become(gorge);
        for (int wall = 0; wall < WALLS; wall++) {
            if (has(white, wall)) {
                scratch.keeps[wall] = 0;
            }
        }
        for (int colour = 0; colour < COLOURS; colour++) {
            course.fromNow(scratch, colour, 0);
            course.run(scratch, HORIZON, 0);
            if (course.mostFrom(d) > v) {
                return false;
            }
        }
        return true;
    }

    private void fillEchoes(int d) {
        for (int dress = 0; dress < DRESSES; dress++) {
            for (int colour = 0; colour < COLOURS; colour++) {
                echoes[dress * COLOURS + colour] = echoAlone(gorge.worth(dress, colour), d);
            }
        }
    }

    private boolean echoAlike(int one, int two) {
        for (int colour = 0; colour < COLOURS; colour++) {
            if (echoes[one * COLOURS + colour] != echoes[two * COLOURS + colour]) {
                return false;
            }
        }
        return true;
    }

    // ---- fogs, images

    /** The chance of just these fogs, over 10 to the power of the days. */
    private static long fogWeight(int fogs, int d, int t) {
        int foggy = Integer.bitCount(fogs);
        return power(t, foggy) * power(TENTHS - t, d - foggy);
    }

    private static long power(int base, int exponent) {
        long product = 1;
        for (int i = 0; i < exponent; i++) {
            product *= base;
        }
        return product;
    }

    private static long commonDivisor(long upper, long lower) {
        long a = upper;
        long b = lower;
        for (int step = 0; step < 200 && b != 0; step++) {
            long left = a % b;
            a = b;
            b = left;
        }
        return a;
    }

    private Gorge imageOf(int n) {
        return n == 0 ? image0 : image1;
    }

    private int toldOfToday(int what) {
        switch (what) {
            case 0:
                return pad.count;
            case 1:
                return gorge.day;
            case 2:
                return gorge.most;
            case 3:
                return gorge.sights;
            case 4:
                return gorge.fog ? 1 : 0;
            case 5:
                return gorge.snow ? 1 : 0;
            default:
                return gorge.worn;
        }
    }

    /** All that an image keeps: everything but the pad. */
    private static final class Gorge {
        final int[] off = {1, 2, 3, 4};
        final int[] keeps = new int[WALLS];
        final int[] dresses = new int[DRESSES * COLOURS];
        final int[] past = new int[COLOURS * MOST_OFF];
        final int[] today = new int[COLOURS];
        final int[] sightDays = new int[SIGHTS];
        final int[] sightAmounts = new int[SIGHTS];
        int sights = 0;
        int most = 500;
        int day = 0;
        int worn = 0;
        boolean fog = false;
        boolean snow = false;

        void become(Gorge from) {
            System.arraycopy(from.off, 0, off, 0, WALLS);
            System.arraycopy(from.keeps, 0, keeps, 0, WALLS);
            System.arraycopy(from.dresses, 0, dresses, 0, DRESSES * COLOURS);
            System.arraycopy(from.past, 0, past, 0, COLOURS * MOST_OFF);
            System.arraycopy(from.today, 0, today, 0, COLOURS);
            System.arraycopy(from.sightDays, 0, sightDays, 0, SIGHTS);
            System.arraycopy(from.sightAmounts, 0, sightAmounts, 0, SIGHTS);
            sights = from.sights;
            most = from.most;
            day = from.day;
            worn = from.worn;
            fog = from.fog;
            snow = from.snow;
        }

        int worth(int dress, int colour) {
            return dresses[dress * COLOURS + colour];
        }

        int worthOfSet(int set, int colour) {
            int sum = 0;
            for (int dress = 0; dress < DRESSES; dress++) {
                if (has(set, dress)) {
                    sum += worth(dress, colour);
                }
            }
            return sum;
        }

        /** What was seen so many days (1 to 9) ahead of today, 0 if no day remembers it. */
        int seenAgo(int colour, int ago) {
            return ago >= 1 && ago <= MOST_OFF ? past[colour * MOST_OFF + ago - 1] : 0;
        }

        /** What is seen today, if so much more were shown. */
        int seenToday(int colour, int more) {
            int sum = today[colour] + more;
            if (!fog && !snow) {
                for (int wall = 0; wall < WALLS; wall++) {
                    sum += seenAgo(colour, off[wall]) * keeps[wall] / TENTHS;
                }
            }
            return capped(sum);
        }

        int mostSeen() {
            return Math.max(seenToday(0, 0), Math.max(seenToday(1, 0), seenToday(2, 0)));
        }

        boolean isOver() {
            return seenToday(0, 0) > most || seenToday(1, 0) > most || seenToday(2, 0) > most;
        }

        /** What a day of snow leaves behind of the days ahead of it is nothing, so they are emptied here. */
        void endDay() {
            for (int colour = 0; colour < COLOURS; colour++) {
                int now = seenToday(colour, 0);
                int first = colour * MOST_OFF;
                for (int ago = MOST_OFF - 1; ago > 0; ago--) {
                    past[first + ago] = snow ? 0 : past[first + ago - 1];
                }
                past[first] = now;
                today[colour] = 0;
            }
            day++;
            worn = 0;
            fog = false;
            snow = false;
        }

        /** A day of a year by its draw. */
        void draw(int x) {
            fog = x % 7 == 0;
            snow = x % 31 == 0;
            today[x % COLOURS] = x / 7 % 100;
        }

        /** Why the act can not be, the least reason; 0 if it can. */
        int hindrance(int head, int digit) {
            int colour = Pad.colourOf(head);
            if (colour != NONE) {
                return today[colour] + 10 * digit > MOST_SEEN ? TOO_MUCH : 0;
            }
            int dress = Pad.dressOf(head);
            if (dress != NONE) {
                return hindranceOfDress(dress);
            }
            if (head == 'w') {
                return isWall(digit) && keeps[digit] > 0 ? 0 : WHITE;
            }
            return head == '.' && day >= LAST_DAY ? NO_DAY_LEFT : 0;
        }

        private int hindranceOfDress(int dress) {
            for (int colour = 0; colour < COLOURS; colour++) {
                if (today[colour] + worth(dress, colour) > MOST_SEEN) {
                    return TOO_MUCH;
                }
            }
            return has(worn, dress) ? WORN : 0;
        }

        /** Does an act that nothing hinders. */
        void act(int head, int digit) {
            int colour = Pad.colourOf(head);
            int dress = Pad.dressOf(head);
            if (colour != NONE) {
                today[colour] += 10 * digit;
            } else if (dress != NONE) {
                wear(dress);
            } else if (head == 'f') {
                fog = !fog;
            } else if (head == 's') {
                snow = !snow;
            } else if (head == '.') {
                endDay();
            } else if (head == 'w' && isWall(digit)) {
                keeps[digit] = 0;
            }
        }

        private void wear(int dress) {
            for (int colour = 0; colour < COLOURS; colour++) {
                today[colour] += worth(dress, colour);
            }
            worn |= 1 << dress;
        }
    }

    /** The text of days, with its grammar. */
    private static final class Pad {
        final int[] signs = new int[SIGNS];
        int count = 0;

        static int colourOf(int sign) {
            switch (sign) {
                case 'r':
                    return 0;
                case 'y':
                    return 1;
                case 'b':
                    return 2;
                default:
                    return NONE;
            }
        }

        static int dressOf(int sign) {
            return sign >= 'A' && sign < 'A' + DRESSES ? sign - 'A' : NONE;
        }

        static boolean takesDigit(int sign) {
            return colourOf(sign) != NONE || sign == 'w';
        }

        static boolean standsAlone(int sign) {
            return dressOf(sign) != NONE || sign == 'f' || sign == 's' || sign == '.';
        }

        static boolean isDigitOf(int head, int sign) {
            return head == 'w' ? isWithin(sign, '0', '0' + WALLS - 1) : isWithin(sign, '1', '9');
        }

        /** The digit of the act at a place, 0 if it has none. */
        int digitAt(int place) {
            return takesDigit(signs[place]) && place + 1 < count ? signs[place + 1] - '0' : 0;
        }

        int faultPlace() {
            for (int place = 0; place < count; place++) {
                int head = signs[place];
                if (takesDigit(head)) {
                    place++;
                    if (place >= count) {
                        return count;
                    }
                    if (!isDigitOf(head, signs[place])) {
                        return place;
                    }
                } else if (!standsAlone(head)) {
                    return place;
                }
            }
            return NONE;
        }
    }

    /** Days of a pad without a fault, played on a gorge of their own. */
    private static final class Days {
        final Gorge end = new Gorge();
        int acts = 0;
        int reason = 0;
        int firstOver = NONE;

        void play(Gorge from, Pad pad) {
            end.become(from);
            acts = 0;
            reason = 0;
            firstOver = NONE;
            for (int place = 0; place < pad.count; place++) {
                int head = pad.signs[place];
                int digit = pad.digitAt(place);
                place += Pad.takesDigit(head) ? 1 : 0;
                reason = end.hindrance(head, digit);
                if (reason != 0) {
                    return;
                }
                if (head == '.') {
                    noteOver(from.day);
                }
                end.act(head, digit);
                acts++;
            }
            noteOver(from.day);
        }

        private void noteOver(int firstDay) {
            if (firstOver == NONE && end.isOver()) {
                firstOver = end.day - firstDay;
            }
        }
    }

    /** What is seen of one colour, from nine days ahead of now to the horizon. */
    private static final class Course {
        private static final int NOW = MOST_OFF;
        final int[] row = new int[NOW + HORIZON + 1];

        void fromNow(Gorge gorge, int colour, int more) {
            for (int ago = 1; ago <= MOST_OFF; ago++) {
                row[NOW - ago] = gorge.snow ? 0 : gorge.seenAgo(colour, ago);
            }
            row[NOW] = gorge.seenToday(colour, more);
        }

        void fromNothing(int amount) {
            for (int ago = 1; ago <= MOST_OFF; ago++) {
                row[NOW - ago] = 0;
            }
            row[NOW] = capped(amount);
        }

        /** Fills the days from tomorrow on; bit 0 of fogs is tomorrow's fog, and none comes behind the eighth day. */
        void run(Gorge gorge, int d, int fogs) {
            for (int day = 1; day <= d && day <= HORIZON; day++) {
                boolean fog = day <= FOG_DAYS && has(fogs, day - 1);
                row[NOW + day] = fog ? 0 : offWalls(gorge, NOW + day);
            }
        }

        private int offWalls(Gorge gorge, int place) {
            int sum = 0;
            for (int wall = 0; wall < WALLS; wall++) {
                int from = place - gorge.off[wall];
                sum += from >= 0 && from < place ? row[from] * gorge.keeps[wall] / TENTHS : 0;
            }
            return capped(sum);
        }

        int at(int d) {
            return isAhead(d) ? row[NOW + d] : 0;
        }

        int mostFrom(int d) {
            int most = 0;
            for (int day = d; day <= HORIZON; day++) {
                most = Math.max(most, at(day));
            }
            return most;
        }

        /** The last day on which something is seen; -1 if nothing ever is. */
        int lastSeen() {
            for (int day = HORIZON; day >= 0; day--) {
                if (at(day) > 0) {
                    return day;
                }
            }
            return -1;
        }
    }

    /** Which days and tens fit the sights. */
    private static final class Guesses {
        final int[] echo = new int[MOST_TENS * (HORIZON + 1)];
        final int[] fitting = new int[SHOW_DAYS * MOST_TENS];
        final int[] tally = new int[MOST_SEEN + 1];
        int count = 0;

        void gather(Gorge gorge, Course course) {
            fillEcho(gorge, course);
            count = 0;
            for (int day = 0; day < SHOW_DAYS; day++) {
                for (int tens = 1; tens <= MOST_TENS; tens++) {
                    if (fits(gorge, 10 * day + tens)) {
                        fitting[count] = 10 * day + tens;
                        count++;
                    }
                }
            }
        }

        private void fillEcho(Gorge gorge, Course course) {
            for (int tens = 1; tens <= MOST_TENS; tens++) {
                course.fromNothing(10 * tens);
                course.run(gorge, HORIZON, 0);
                for (int d = 0; d <= HORIZON; d++) {
                    echo[(tens - 1) * (HORIZON + 1) + d] = course.at(d);
                }
            }
        }

        private boolean fits(Gorge gorge, int guess) {
            for (int sight = 0; sight < gorge.sights; sight++) {
                if (seenBy(guess, gorge.sightDays[sight]) != gorge.sightAmounts[sight]) {
                    return false;
                }
            }
            return true;
        }

        private int seenBy(int guess, int day) {
            int later = day - guess / 10;
            return isAhead(later) ? echo[(guess % 10 - 1) * (HORIZON + 1) + later] : 0;
        }

        /** How many guesses a look on this day leaves, if what is seen tells least. */
        int mostLeft(int day) {
            int most = 0;
            for (int i = 0; i < count; i++) {
                int seen = seenBy(fitting[i], day);
                if (isAmount(seen)) {
                    tally[seen]++;
                    most = Math.max(most, tally[seen]);
                }
            }
            for (int i = 0; i < count; i++) {
                int seen = seenBy(fitting[i], day);
                if (isAmount(seen)) {
                    tally[seen] = 0;
                }
            }
            return most;
        }
    }

    /** Two who dress by turns, solved from the empty set of dresses upwards. */
    private static final class Game {
        private static final int LOSES = -1, NOBODY = 0, WINS = 1;
        final int[] best = new int[ALL_DRESSES + 1];
        final int[] choice = new int[ALL_DRESSES + 1];
        int whole = 0;

        void solve(Gorge gorge, int set) {
            whole = set;
            best[0] = NOBODY;
            choice[0] = NONE;
            for (int left = 1; left <= set; left++) {
                if ((left & ~set) == 0) {
                    solveLeft(gorge, left);
                }
            }
        }

        private void solveLeft(Gorge gorge, int left) {
            best[left] = LOSES;
            choice[left] = NONE;
            for (int dress = 0; dress < DRESSES; dress++) {
                if (has(left, dress)) {
                    int rest = left & ~(1 << dress);
                    int value = loses(gorge, whole & ~rest) ? LOSES : -best[rest];
                    if (value > best[left]) {
                        best[left] = value;
                        choice[left] = dress;
                    }
                }
            }
        }

        private boolean loses(Gorge gorge, int out) {
            for (int colour = 0; colour < COLOURS; colour++) {
                if (gorge.seenToday(colour, gorge.worthOfSet(out, colour)) > gorge.most) {
                    return true;
                }
            }
            return false;
        }

        int winner() {
            if (best[whole] == NOBODY) {
                return NONE;
            }
            return best[whole] == WINS ? 0 : 1;
        }

        int opening() {
            return choice[whole];
        }
    }
}
