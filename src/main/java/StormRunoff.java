import java.util.Arrays;

/**
 * Storm and runoff: rain by hours folded with what a basin answers. The document ../shared/DOC.md says what each call
 * answers; its words in capitals are used here as it uses them.
 */
public final class StormRunoff {
    public static final int NONE = -1, BAD = -2, STATE = -3, FULL = -4;
    public static final long NO = Long.MIN_VALUE;

    private static final int NO_ONE = -5, NO_FLAW_BACK = -6, TEXT_FAULT = -10;
    private static final int NOTHING = -11, CAST = -12, PLACE = -13, SIZE = -14;

    private static final int HOURS = 30, RAIN_HOURS = 8, TOLD_HOURS = 12, PLACES = 5;
    private static final int MOST_RAIN = 20, MOST_TOLD = 999, MOST_BY_HAND = 9999;
    private static final int MOST_ANSWER = 99999, MOST_DIGIT = 9;
    private static final int MOST_ROWS = 8, MOST_SEEN = 5;

    private static final int THROUGH = 0, LAG = 1, POND = 2, GATE = 3, SPILL = 4;
    private static final int VOLUME = 0, PEAK = 1, PEAK_HOUR = 2;
    private static final int TWICE = 0, DRY = 1, OPENED = 2, LATER = 3;

    private static final int NEAREST_HOURS = 3, NEAREST_STEPS = 7, NEAREST_RAINS = 343;

    private static final int MOST_SIGNS = 100, MOST_CLAUSES = 12, NO_SIGN = -1, NO_FAULT = -1;
    private static final int LOOKED_AT = 100;
    private static final int MOST_ITEMS = 60;
    private static final int EMPTY = -1, BYTES = 0, SHORTS = 1, INTS = 2, LONGS = 3, BOOLEANS = 4;

    private final State now = new State();
    private final State kept = new State();
    private boolean keptOnce = false;
    /** What is asked is tried here, so that asking changes nothing. */
    private final Site trial = new Site();
    private final Course course = new Course();
    private final Division division = new Division();
    private final Nearness nearness = new Nearness();
    private final SetUp text = new SetUp();
    private final Tape[] tapes = {new Tape(), new Tape(), new Tape(), new Tape(), new Tape(), new Tape()};

    public StormRunoff() {
    }

    // ---- rain, basins

    public int rain(int hour, int v) {
        return exchangeNumber(now.site.rain, hour, v, MOST_RAIN);
    }

    public int basin(int answer) {
        if (!between(answer, 1, MOST_ANSWER)) {
            return BAD;
        }
        Site site = now.site;
        int number = site.many;
        if (number < 0 || number >= site.basins.length) {
            return FULL;
        }
        site.basins[number].comeWith(answer);
        site.many = number + 1;
        return number;
    }

    public int hold(int basin, int kind, int n) {
        if (!now.site.has(basin)) {
            return NONE;
        }
        if (!between(kind, THROUGH, SPILL) || !between(n, kind == POND ? 1 : 0, MOST_DIGIT)) {
            return BAD;
        }
        Basin held = now.site.basins[basin];
        int was = 10 * held.kind + held.number;
        held.kind = kind;
        held.number = n;
        return was;
    }

    public int tell(int hour, int v) {
        return exchangeNumber(now.told, hour, v, MOST_TOLD);
    }

    public int take(int basin) {
        if (!now.site.has(basin)) {
            return NONE;
        }
        if (division.unfoldBy(now.site.basins[basin], now.told) != NO_ONE) {
            return STATE;
        }
        copyNumbers(division.rain, now.site.rain);
        return measure(now.site.rain, VOLUME);
    }

    public int feed(int sign) {
        if (!between(sign, 0, 127)) {
            return BAD;
        }
        return text.addSign(sign) ? text.length : FULL;
    }

    public int read() {
        int fault = text.findFault();
        int done = fault == NO_FAULT ? doClauses() : TEXT_FAULT - fault;
        text.length = 0;
        return done;
    }

    // ---- what is told

    public int of(int side, int hour) {
        int[] numbers = numbersOf(side);
        if (numbers == null || !between(hour, 0, numbers.length - 1)) {
            return NONE;
        }
        return numbers[hour];
    }

    public int told(int basin, int what) {
        if (!now.site.has(basin) || !between(what, -1, 7)) {
            return NONE;
        }
        Basin asked = now.site.basins[basin];
        switch (what) {
            case -1:
                return asked.places;
            case 5:
                return asked.kind;
            case 6:
                return asked.number;
            case 7:
                return course.runOff(asked, now.site.rain);
            default:
                return what < asked.answer.length ? asked.answer[what] : 0;
        }
    }

    public int flow(int side, int basin, int hour) {
        if (!between(side, 0, 1) || !now.site.has(basin) || !between(hour, 0, HOURS - 1)) {
            return NONE;
        }
        course.runOff(now.site.basins[basin], now.site.rain);
        return side == 0 ? course.flow[hour] : course.out[hour];
    }

    public int row(int side, int what) {
        int[] numbers = side < 3 ? numbersOf(side) : outOf(side - 3);
        if (numbers == null || !between(what, VOLUME, PEAK_HOUR)) {
            return NONE;
        }
        return measure(numbers, what);
    }

    public int basins() {
        return now.site.many;
    }

    // ---- unfolding

    public int flaw(int basin) {
        if (!now.site.has(basin)) {
            return NONE;
        }
        return division.unfoldBy(now.site.basins[basin], now.told);
    }

    public int unfold(int basin, int hour) {
        if (!now.site.has(basin) || !between(hour, 0, RAIN_HOURS - 1)) {
            return NONE;
        }
        if (division.unfoldBy(now.site.basins[basin], now.told) != NO_ONE) {
            return STATE;
        }
        return division.rain[hour];
    }

    public int backFlaw() {
        return division.findBack(now.site.rain, now.told);
    }

    public int back(int place) {
        if (!between(place, 0, PLACES - 1)) {
            return NONE;
        }
        if (division.findBack(now.site.rain, now.told) != NO_FLAW_BACK) {
            return STATE;
        }
        return division.answer[place];
    }

    public int nearest(int basin, int hour) {
        if (!now.site.has(basin) || !between(hour, 0, NEAREST_HOURS)) {
            return NONE;
        }
        nearness.seek(now.site.basins[basin], now.told);
        return hour < nearness.best.length ? nearness.best[hour] : nearness.least;
    }

    public int exchange(int what) {
        if (!between(what, 0, 1)) {
            return NONE;
        }
        trial.become(now.site);
        int least = course.peakOf(trial);
        int pair = NO_ONE;
        for (int s = 0; s < RAIN_HOURS; s++) {
            for (int t = s + 1; t < RAIN_HOURS; t++) {
                swap(trial.rain, s, t);
                int peak = course.peakOf(trial);
                swap(trial.rain, s, t);
                if (peak < least) {
                    least = peak;
                    pair = 10 * s + t;
                }
            }
        }
        return what == 0 ? pair : least;
    }

    // ---- seen, odds

    public int see(int hour, int n) {
        return tellByHand(now.seen, hour, n);
    }

    public int fits(int hour, int what) {
        if (!between(hour, 0, RAIN_HOURS - 1) || !between(what, 0, 1)) {
            return NONE;
        }
        int many = 0;
        int least = NO_ONE;
        trial.become(now.site);
        for (int v = MOST_RAIN; v >= 0; v--) {
            trial.rain[hour] = v;
            course.join(trial);
            if (now.seen.firstOtherwise(course.joined) == NO_ONE) {
                many++;
                least = v;
            }
        }
        return what == 0 ? many : least;
    }

    public long odds(int hour, int limit, int part) {
        if (!between(hour, 0, RAIN_HOURS - 1) || !between(limit, 0, MOST_BY_HAND)) {
            return NO;
        }
        int above = 0;
        trial.become(now.site);
        for (int v = 0; v <= MOST_RAIN; v++) {
            trial.rain[hour] = v;
            if (course.peakOf(trial) > limit) {
                above++;
            }
        }
        return inLowestTerms(above, MOST_RAIN + 1, part);
    }

    public long mean(int part) {
        course.join(now.site);
        int wet = 0;
        for (int h = 0; h < course.joined.length; h++) {
            if (course.joined[h] > 0) {
                wet++;
            }
        }
        return inLowestTerms(measure(course.joined, VOLUME), wet, part);
    }

    // ---- events, books

    public int event(int what, int n) {
        if (what == -1) {
            now.events.many = 0;
            return 0;
        }
        if (!between(what, TWICE, LATER)) {
            return NONE;
        }
        if (what == LATER) {
            return between(n, 0, RAIN_HOURS - 1) ? now.events.addRow(what, n) : BAD;
        }
        boolean there = what == OPENED ? now.site.has(n) : between(n, 0, RAIN_HOURS - 1);
        return there ? now.events.addRow(what, n) : NONE;
    }

    public int after(int what) {
        if (!between(what, 0, 2)) {
            return NONE;
        }
        trial.become(now.site);
        Rows events = now.events;
        for (int r = 0; r < events.many && r < events.first.length && r < events.second.length; r++) {
            trial.undergo(events.first[r], events.second[r]);
        }
        course.join(trial);
        switch (what) {
            case 0:
                return measure(course.joined, PEAK);
            case 1:
                return measure(course.joined, PEAK_HOUR);
            default:
                return measure(course.joined, VOLUME);
        }
    }

    public int book(int hour, int n) {
        return tellByHand(now.book, hour, n);
    }

    public int looked() {
        course.join(now.site);
        return now.book.firstOtherwise(course.joined);
    }

    // ---- judging, the image, tapes

    public int judge(int basin, int tape, int i) {
        if (!now.site.has(basin) || !isTape(tape)) {
            return NONE;
        }
        Tape row = tapes[tape];
        if (row.sort == EMPTY) {
            return LOOKED_AT;
        }
        if (row.sort != SHORTS) {
            return CAST;
        }
        course.runOff(now.site.basins[basin], now.site.rain);
        for (int h = 0; h < HOURS; h++) {
            // The place is tested before the hour is added to it: together they might be too great for an int.
            if (!between(i, 0, row.size - 1 - h)) {
                return LOOKED_AT + h;
            }
            if (row.items[i + h] != course.out[h]) {
                return h;
            }
        }
        return NO_ONE;
    }

    public int image() {
        kept.become(now);
        keptOnce = true;
        return now.site.many;
    }

    public int undo() {
        if (!keptOnce) {
            return STATE;
        }
        now.become(kept);
        return now.site.many;
    }

    public int count(int what) {
        switch (what) {
            case 0:
                return now.seen.many;
            case 1:
                return now.events.many;
            case 2:
                return now.book.many;
            case 3:
                return text.length;
            default:
                return BAD;
        }
    }

    public int tape(int tape, int sort, int n) {
        if (!isTape(tape)) {
            return NONE;
        }
        if (!between(sort, EMPTY, BOOLEANS)) {
            return BAD;
        }
        if (sort != EMPTY && n > MOST_ITEMS) {
            return BAD;
        }
        if (sort != EMPTY && n < 0) {
            return SIZE;
        }
        tapes[tape].begin(sort, sort == EMPTY ? 0 : n);
        return 1;
    }

    public int item(int tape, int i, long v) {
        if (!isTape(tape)) {
            return NONE;
        }
        Tape row = tapes[tape];
        if (row.sort == EMPTY) {
            return NOTHING;
        }
        if (!row.hasPlace(i)) {
            return PLACE;
        }
        row.items[i] = cutTo(row.sort, v);
        return 1;
    }

    public long peek(int tape, int i) {
        if (!isTape(tape) || !tapes[tape].hasPlace(i)) {
            return NO;
        }
        return tapes[tape].items[i];
    }

    public int shift(int tape, int i, int other, int j, int n) {
        if (!isTape(tape) || !isTape(other)) {
            return NONE;
        }
        Tape from = tapes[tape];
        Tape to = tapes[other];
        if (from.sort == EMPTY || to.sort == EMPTY) {
            return NOTHING;
        }
        if (from.sort != to.sort) {
            return CAST;
        }
        if (!from.hasStretch(i, n) || !to.hasStretch(j, n)) {
            return PLACE;
        }
        System.arraycopy(from.items, i, to.items, j, n);
        return n;
    }

    // ---- what several calls share

    private static boolean between(int v, int least, int most) {
        return v >= least && v <= most;
    }

    private boolean isTape(int tape) {
        return between(tape, 0, tapes.length - 1);
    }

    private static int exchangeNumber(int[] numbers, int hour, int v, int most) {
        if (!between(hour, 0, numbers.length - 1)) {
            return NONE;
        }
        if (!between(v, 0, most)) {
            return BAD;
        }
        int was = numbers[hour];
        numbers[hour] = v;
        return was;
    }

    private static int tellByHand(Rows rows, int hour, int n) {
        if (hour == -1) {
            rows.many = 0;
            return 0;
        }
        if (!between(hour, 0, HOURS - 1)) {
            return NONE;
        }
        if (!between(n, 0, MOST_BY_HAND)) {
            return BAD;
        }
        return rows.addRow(hour, n);
    }

    /** RAIN, TOLD or JOINED; null: there is no such side. */
    private int[] numbersOf(int side) {
        switch (side) {
            case 0:
                return now.site.rain;
            case 1:
                return now.told;
            case 2:
                course.join(now.site);
                return course.joined;
            default:
                return null;
        }
    }

    /** OUT of a BASIN; null: there is no such BASIN. */
    private int[] outOf(int basin) {
        if (!now.site.has(basin)) {
            return null;
        }
        course.runOff(now.site.basins[basin], now.site.rain);
        return course.out;
    }

    private static int measure(int[] numbers, int what) {
        int volume = 0;
        int peak = 0;
        int peakHour = 0;
        for (int h = 0; h < numbers.length; h++) {
            volume += numbers[h];
            if (numbers[h] > peak) {
                peak = numbers[h];
                peakHour = h;
            }
        }
        switch (what) {
            case VOLUME:
                return volume;
            case PEAK:
                return peak;
            default:
                return peakHour;
        }
    }

    /** Part 0 is above the line, part 1 below it; NO: there is nothing to divide by, or no such part. */
    private static long inLowestTerms(int above, int below, int part) {
        if (above < 0 || below <= 0 || !between(part, 0, 1)) {
            return NO;
        }
        int divisor = greatestDivisor(above, below);
        return (part == 0 ? above : below) / divisor;
    }

    /** Of a number not below 0 and one above 0; it is at least 1. */
    private static int greatestDivisor(int a, int b) {
        int greater = b;
        int less = a;
        for (int step = 0; step < 100 && less > 0; step++) {
            int rest = greater % less;
            greater = less;
            less = rest;
        }
        return Math.max(greater, 1);
    }

    private static void copyNumbers(int[] from, int[] to) {
        for (int k = 0; k < from.length && k < to.length; k++) {
            to[k] = from[k];
        }
    }

    private static void swap(int[] numbers, int s, int t) {
        if (between(s, 0, numbers.length - 1) && between(t, 0, numbers.length - 1)) {
            int held = numbers[s];
            numbers[s] = numbers[t];
            numbers[t] = held;
        }
    }

    private static long cutTo(int sort, long v) {
        switch (sort) {
            case BYTES:
                return (byte) v;
            case SHORTS:
                return (short) v;
            case INTS:
                return (int) v;
            case BOOLEANS:
                return v != 0 ? 1 : 0;
            default:
                return v;
        }
    }

    /** Does the CLAUSES of a text without FAULT; how many weren't refused. */
    private int doClauses() {
        int done = 0;
        text.begin();
        for (int c = 0; c < MOST_CLAUSES && text.readClause(); c++) {
            if (doClause()) {
                done++;
            }
            text.stepOver(';');
        }
        return done;
    }

    private boolean doClause() {
        int[] numbers = text.numbers;
        switch (text.letter) {
            case 'b':
                return numbers[0] > 0 && basin(text.digitsTogether()) >= 0;
            case 'k':
                return hold(numbers[0], numbers[1], numbers[2]) >= 0;
            case 'w':
                return text.copyNumbersTo(now.site.rain, MOST_RAIN);
            default:
                return text.copyNumbersTo(now.told, MOST_TOLD);
        }
    }

    /** A BASIN: its ANSWER (0 behind its places) and its RESERVOIR. */
    private static final class Basin {
        final int[] answer = new int[PLACES];
        int places = 0;
        int kind = THROUGH;
        int number = 0;

        void become(Basin other) {
            copyNumbers(other.answer, answer);
            places = other.places;
            kind = other.kind;
            number = other.number;
        }

        /** All of it is set: there may have been another BASIN here ahead of an undo. */
        void comeWith(int digits) {
            places = 0;
            for (int rest = digits; rest > 0 && places < answer.length; rest /= 10) {
                places++;
            }
            int rest = digits;
            for (int a = answer.length - 1; a >= 0; a--) {
                answer[a] = a < places ? rest % 10 : 0;
                rest = a < places ? rest / 10 : rest;
            }
            kind = THROUGH;
            number = 0;
        }

        void flowBy(int[] rain, int[] flow) {
            Arrays.fill(flow, 0);
            for (int s = 0; s < rain.length; s++) {
                for (int a = 0; a < answer.length && s + a < flow.length; a++) {
                    flow[s + a] += rain[s] * answer[a];
                }
            }
        }

        /** Fills OUT; what it answers is STORE behind the last hour. */
        int letThrough(int[] flow, int[] out) {
            int store = 0;
            for (int h = 0; h < flow.length && h < out.length; h++) {
                if (kind == LAG) {
                    out[h] = between(h - number, 0, flow.length - 1) ? flow[h - number] : 0;
                } else {
                    store += flow[h];
                    out[h] = outOfStore(store);
                    store -= out[h];
                }
            }
            return store;
        }

        int outOfStore(int store) {
            switch (kind) {
                case POND:
                    return number > 0 ? store / number : 0;
                case GATE:
                    return Math.min(store, number);
                case SPILL:
                    return Math.max(store - number, 0);
                default:
                    return store;
            }
        }
    }

    /** RAIN and BASINS: all that JOINED comes from. */
    private static final class Site {
        final int[] rain = new int[RAIN_HOURS];
        final Basin[] basins = {new Basin(), new Basin(), new Basin()};
        int many = 0;

        void become(Site other) {
            copyNumbers(other.rain, rain);
            for (int b = 0; b < basins.length && b < other.basins.length; b++) {
                basins[b].become(other.basins[b]);
            }
            many = other.many;
        }

        boolean has(int basin) {
            return basin >= 0 && basin < many && basin < basins.length;
        }

        void undergo(int what, int n) {
            if (what == OPENED) {
                if (has(n)) {
                    basins[n].kind = THROUGH;
                }
            } else if (between(n, 0, rain.length - 1)) {
                rainOtherwise(what, n);
            }
        }

        private void rainOtherwise(int what, int n) {
            switch (what) {
                case TWICE:
                    rain[n] = Math.min(2 * rain[n], MOST_RAIN);
                    break;
                case DRY:
                    rain[n] = 0;
                    break;
                default:
                    for (int h = rain.length - 1; h >= 0; h--) {
                        rain[h] = h >= n ? rain[h - n] : 0;
                    }
                    break;
            }
        }
    }

    /** Rows of two numbers, told by hand. */
    private static final class Rows {
        final int[] first = new int[MOST_ROWS];
        final int[] second = new int[MOST_ROWS];
        final int limit;
        int many = 0;

        Rows(int most) {
            limit = most;
        }

        void become(Rows other) {
            copyNumbers(other.first, first);
            copyNumbers(other.second, second);
            many = other.many;
        }

        int addRow(int a, int b) {
            if (many < 0 || many >= limit || many >= first.length || many >= second.length) {
                return FULL;
            }
            first[many] = a;
            second[many] = b;
            many++;
            return many;
        }

        /** The first row whose hour has another number than it says; NO_ONE: each has its own. */
        int firstOtherwise(int[] numbers) {
            for (int r = 0; r < many && r < first.length && r < second.length; r++) {
                int hour = first[r];
                if (!between(hour, 0, numbers.length - 1) || numbers[hour] != second[r]) {
                    return r;
                }
            }
            return NO_ONE;
        }
    }

    /** All that THE IMAGE holds. */
    private static final class State {
        final Site site = new Site();
        final int[] told = new int[TOLD_HOURS];
        final Rows seen = new Rows(MOST_SEEN);
        final Rows events = new Rows(MOST_ROWS);
        final Rows book = new Rows(MOST_ROWS);

        void become(State other) {
            site.become(other.site);
            copyNumbers(other.told, told);
            seen.become(other.seen);
            events.become(other.events);
            book.become(other.book);
        }
    }

    /** Rows of hours that are used again by each call, so that no call makes any. */
    private static final class Course {
        final int[] flow = new int[HOURS];
        final int[] out = new int[HOURS];
        final int[] joined = new int[HOURS];

        /** Fills FLOW and OUT; what it answers is STORE behind the last hour. */
        int runOff(Basin basin, int[] rain) {
            basin.flowBy(rain, flow);
            return basin.letThrough(flow, out);
        }

        void join(Site site) {
            Arrays.fill(joined, 0);
            for (int b = 0; b < site.many && b < site.basins.length; b++) {
                runOff(site.basins[b], site.rain);
                for (int h = 0; h < joined.length && h < out.length; h++) {
                    joined[h] += out[h];
                }
            }
        }

        int peakOf(Site site) {
            join(site);
            return measure(joined, PEAK);
        }
    }

    /** TOLD divided by an ANSWER (UNFOLDED), or by RAIN (FOUND BACK). */
    private static final class Division {
        final int[] left = new int[TOLD_HOURS];
        final int[] rain = new int[RAIN_HOURS];
        final int[] answer = new int[PLACES];

        /** FLAW; NO_ONE: none, and rain is UNFOLDED. */
        int unfoldBy(Basin basin, int[] told) {
            copyNumbers(told, left);
            for (int h = 0; h < rain.length && h < left.length; h++) {
                rain[h] = wholePart(left[h], basin.answer[0], MOST_RAIN);
                if (rain[h] < 0) {
                    return h;
                }
                takeAway(h, rain[h], basin.answer);
            }
            int over = firstLeft();
            return over < 0 ? NO_ONE : over;
        }

        /** FLAW; NO_FLAW_BACK: none, and answer is FOUND BACK; NO_ONE: there is no RAIN. */
        int findBack(int[] by, int[] told) {
            int f = firstWet(by);
            if (f < 0) {
                return NO_ONE;
            }
            copyNumbers(told, left);
            for (int a = 0; a < answer.length && f + a < left.length; a++) {
                answer[a] = wholePart(left[f + a], by[f], MOST_DIGIT);
                if (answer[a] < 0) {
                    return a;
                }
                takeAway(a, answer[a], by);
            }
            int over = firstLeft();
            return over < 0 ? NO_FLAW_BACK : 10 + over;
        }

        private static int firstWet(int[] rain) {
            for (int h = 0; h < rain.length; h++) {
                if (rain[h] > 0) {
                    return h;
                }
            }
            return -1;
        }

        /** -1: it is not whole, or not 0 .. most. */
        private static int wholePart(int sum, int by, int most) {
            if (by <= 0 || sum < 0 || sum % by != 0 || sum / by > most) {
                return -1;
            }
            return sum / by;
        }

        private void takeAway(int from, int times, int[] numbers) {
            for (int k = 0; k < numbers.length && between(from + k, 0, left.length - 1); k++) {
                left[from + k] -= times * numbers[k];
            }
        }

        /** -1: nothing is left. Unfolding leaves nothing in hours 0 .. 7, so that it may begin at 0 for both. */
        private int firstLeft() {
            for (int h = 0; h < left.length; h++) {
                if (left[h] != 0) {
                    return h;
                }
            }
            return -1;
        }
    }

    /** Tries all RAINS of three hours for NEAREST. */
    private static final class Nearness {
        final int[] rain = new int[NEAREST_HOURS];
        final int[] best = new int[NEAREST_HOURS];
        final int[] flow = new int[TOLD_HOURS];
        int least = 0;

        void seek(Basin basin, int[] told) {
            for (int r = 0; r < NEAREST_RAINS; r++) {
                spread(r);
                basin.flowBy(rain, flow);
                int squares = squaresFrom(told);
                if (r == 0 || squares < least) {
                    least = squares;
                    copyNumbers(rain, best);
                }
            }
        }

        /** The last hour runs fastest: rows come so in their order. */
        private void spread(int r) {
            int rest = r;
            for (int h = rain.length - 1; h >= 0; h--) {
                rain[h] = rest % NEAREST_STEPS;
                rest /= NEAREST_STEPS;
            }
        }

        private int squaresFrom(int[] told) {
            int squares = 0;
            for (int h = 0; h < flow.length && h < told.length; h++) {
                int apart = flow[h] - told[h];
                squares += apart * apart;
            }
            return squares;
        }
    }

    /** THE TEXT, and the CLAUSE that was read from it last. */
    private static final class SetUp {
        final int[] signs = new int[MOST_SIGNS];
        int length = 0;
        int at = 0;
        int letter = NO_SIGN;
        final int[] numbers = new int[TOLD_HOURS];
        int many = 0;

        boolean addSign(int sign) {
            if (!between(length, 0, signs.length - 1)) {
                return false;
            }
            signs[length] = sign;
            length++;
            return true;
        }

        void begin() {
            at = 0;
        }

        /** FAULT OF THE TEXT; NO_FAULT: none. */
        int findFault() {
            begin();
            for (int c = 1; c <= MOST_CLAUSES; c++) {
                if (!readClause()) {
                    return at;
                }
                if (at >= length) {
                    return NO_FAULT;
                }
                if (c == MOST_CLAUSES || !stepOver(';')) {
                    return at;
                }
            }
            return at;
        }

        /** Whether a CLAUSE begins here; if not, the place is that of the FAULT. */
        boolean readClause() {
            letter = sign();
            many = 0;
            switch (letter) {
                case 'b':
                    at++;
                    return readDigits(1, PLACES);
                case 'k':
                    at++;
                    return readDigits(3, 3);
                case 'w':
                    at++;
                    return readNumbers(RAIN_HOURS);
                case 't':
                    at++;
                    return readNumbers(TOLD_HOURS);
                default:
                    return false;
            }
        }

        boolean stepOver(char wanted) {
            if (sign() != wanted) {
                return false;
            }
            at++;
            return true;
        }

        /** The digits of the CLAUSE as one number. */
        int digitsTogether() {
            int together = 0;
            for (int k = 0; k < many && k < PLACES; k++) {
                together = 10 * together + numbers[k];
            }
            return together;
        }

        /** All or none: whether no number of the CLAUSE is above the most; what it has no number for becomes 0. */
        boolean copyNumbersTo(int[] to, int most) {
            for (int k = 0; k < many && k < numbers.length; k++) {
                if (numbers[k] > most) {
                    return false;
                }
            }
            for (int k = 0; k < to.length; k++) {
                to[k] = k < many && k < numbers.length ? numbers[k] : 0;
            }
            return true;
        }

        private int sign() {
            return at >= 0 && at < length && at < signs.length ? signs[at] : NO_SIGN;
        }

        private boolean readDigits(int least, int most) {
            boolean more = true;
            for (int d = 0; d < most && more; d++) {
                more = readNumber(1);
            }
            return many >= least;
        }

        private boolean readNumbers(int most) {
            boolean whole = readNumber(3);
            for (int n = 1; n < most && whole && stepOver(','); n++) {
                whole = readNumber(3);
            }
            return whole;
        }

        private boolean readNumber(int mostDigits) {
            int value = 0;
            int digits = 0;
            while (digits < mostDigits && between(sign(), '0', '9')) {
                value = 10 * value + sign() - '0';
                digits++;
                at++;
            }
            if (digits == 0 || many < 0 || many >= numbers.length) {
                return false;
            }
            numbers[many] = value;
            many++;
            return true;
        }
    }

    /** A TAPE; its items are kept as longs, cut to its sort. */
    private static final class Tape {
        final long[] items = new long[MOST_ITEMS];
        int sort = EMPTY;
        int size = 0;

        void begin(int newSort, int newSize) {
            sort = newSort;
            size = newSize;
            Arrays.fill(items, 0L);
        }

        boolean hasPlace(int i) {
            return i >= 0 && i < size && i < items.length;
        }

        boolean hasStretch(int i, int n) {
            // By taking away, since i and n together might be too great for an int.
            return n >= 0 && i >= 0 && n <= size && i <= size - n && size <= items.length;
        }
    }
}
