import java.math.BigInteger;
import java.util.ArrayList;
import java.util.List;
import java.util.regex.Matcher;
import java.util.regex.Pattern;

/**
 * The document once more, in another way: lists copied freely, sums by definition, texts by a pattern. It is slow and
 * uses the Java library; ModelTest holds StormRunoff against it.
 */
final class Model {
    static final int NONE = -1, BAD = -2, STATE = -3, FULL = -4;
    static final long NO = Long.MIN_VALUE;
    private static final String NUMBER = "[0-9]{1,3}";
    private static final String CLAUSE = "(b[0-9]{1,5}|k[0-9]{3}|w" + NUMBER + "(," + NUMBER + "){0,7}|t" + NUMBER + "(,"
            + NUMBER + "){0,11})";
    private static final Pattern TEXT = Pattern.compile(CLAUSE + "(;" + CLAUSE + "){0,11}");

    static final class Basin {
        List<Integer> answer = new ArrayList<>();
        int kind = 0;
        int n = 0;

        Basin copy() {
            Basin b = new Basin();
            b.answer.addAll(answer);
            b.kind = kind;
            b.n = n;
            return b;
        }
    }

    static final class World {
        int[] rain = new int[8];
        int[] told = new int[12];
        List<Basin> basins = new ArrayList<>();
        List<int[]> seen = new ArrayList<>();
        List<int[]> events = new ArrayList<>();
        List<int[]> book = new ArrayList<>();

        World copy() {
            World w = new World();
            w.rain = rain.clone();
            w.told = told.clone();
            for (Basin b : basins) {
                w.basins.add(b.copy());
            }
            w.seen.addAll(seen);
            w.events.addAll(events);
            w.book.addAll(book);
            return w;
        }
    }

    World w = new World();
    World image = null;
    StringBuilder text = new StringBuilder();
    Object[] tapes = new Object[6];

    // ---- what the terms say

    static int[] flow(int[] rain, Basin b) {
        int[] flow = new int[30];
        for (int h = 0; h < 30; h++) {
            for (int a = 0; a < b.answer.size(); a++) {
                int s = h - a;
                flow[h] += s >= 0 && s < 8 ? rain[s] * b.answer.get(a) : 0;
            }
        }
        return flow;
    }

    /** OUT of 30 hours, and STORE behind them as the 31st. */
    static int[] out(int[] rain, Basin b) {
        int[] flow = flow(rain, b);
        int[] out = new int[31];
        int store = 0;
        for (int h = 0; h < 30; h++) {
            if (b.kind == 0) {
                out[h] = flow[h];
            } else if (b.kind == 1) {
                out[h] = h < b.n ? 0 : flow[h - b.n];
            } else {
                store += flow[h];
                if (b.kind == 2) {
                    out[h] = store / b.n;
                } else if (b.kind == 3) {
                    out[h] = store < b.n ? store : b.n;
                } else {
                    out[h] = store > b.n ? store - b.n : 0;
                }
                store -= out[h];
            }
        }
        out[30] = store;
        return out;
    }

    static int[] joined(World w) {
        int[] all = new int[30];
        for (Basin b : w.basins) {
            int[] out = out(w.rain, b);
            for (int h = 0; h < 30; h++) {
                all[h] += out[h];
            }
        }
        return all;
    }

    static int measure(int[] row, int what) {
        int sum = 0;
        int at = 0;
        for (int h = 0; h < row.length; h++) {
            sum += row[h];
            at = row[h] > row[at] ? h : at;
        }
        return what == 0 ? sum : what == 1 ? row[at] : at;
    }

    /** UNFOLDED of 8 hours, and FLAW (-5: none) as the ninth. */
    static int[] unfolded(int[] told, Basin b) {
        int[] rain = new int[9];
        for (int h = 0; h < 8; h++) {
            int left = told[h] - flow(rain, b)[h];
            int v = 0;
            while (v <= 20 && v * b.answer.get(0) != left) {
                v++;
            }
            if (v > 20) {
                rain[8] = h;
                return rain;
            }
            rain[h] = v;
        }
        rain[8] = -5;
        int[] flow = flow(rain, b);
        for (int h = 11; h >= 8; h--) {
            rain[8] = flow[h] != told[h] ? h : rain[8];
        }
        return rain;
    }

    /** FOUND BACK of 5 places, and backFlaw's answer as the sixth. */
    static int[] foundBack(int[] told, int[] rain) {
        int[] found = new int[6];
        int f = 0;
        while (f < 8 && rain[f] == 0) {
            f++;
        }
        if (f == 8) {
            found[5] = -5;
            return found;
        }
        Basin b = new Basin();
        for (int a = 0; a < 5; a++) {
            int left = told[f + a] - flow(rain, b)[f + a];
            int v = 0;
            while (v <= 9 && v * rain[f] != left) {
                v++;
            }
            if (v > 9) {
                found[5] = a;
                return found;
            }
            found[a] = v;
            b.answer.add(v);
        }
        found[5] = -6;
        int[] flow = flow(rain, b);
        for (int h = 11; h >= 0; h--) {
            found[5] = flow[h] != told[h] ? 10 + h : found[5];
        }
        return found;
    }

    static long lowest(long above, long below, int part) {
        if (below == 0 || part < 0 || part > 1) {
            return NO;
        }
        long g = BigInteger.valueOf(above).gcd(BigInteger.valueOf(below)).longValue();
        return part == 0 ? above / g : below / g;
    }

    boolean no(int basin) {
        return basin < 0 || basin >= w.basins.size();
    }

    static boolean off(int v, int least, int most) {
        return v < least || v > most;
    }

    // ---- the calls

    int rain(int hour, int v) {
        if (off(hour, 0, 7)) {
            return NONE;
        }
        if (off(v, 0, 20)) {
            return BAD;
        }
        int was = w.rain[hour];
        w.rain[hour] = v;
        return was;
    }

    int basin(int answer) {
        if (off(answer, 1, 99999)) {
            return BAD;
        }
        if (w.basins.size() == 3) {
            return FULL;
        }
        Basin b = new Basin();
        for (char c : Integer.toString(answer).toCharArray()) {
            b.answer.add(c - '0');
        }
        w.basins.add(b);
        return w.basins.size() - 1;
    }

    int hold(int basin, int kind, int n) {
        if (no(basin)) {
            return NONE;
        }
        if (off(kind, 0, 4) || off(n, 0, 9) || kind == 2 && n == 0) {
            return BAD;
        }
        Basin b = w.basins.get(basin);
        int was = 10 * b.kind + b.n;
        b.kind = kind;
        b.n = n;
        return was;
    }

    int tell(int hour, int v) {
        if (off(hour, 0, 11)) {
            return NONE;
        }
        if (off(v, 0, 999)) {
            return BAD;
        }
        int was = w.told[hour];
        w.told[hour] = v;
        return was;
    }

    int take(int basin) {
        if (no(basin)) {
            return NONE;
        }
        int[] unfolded = unfolded(w.told, w.basins.get(basin));
        if (unfolded[8] != -5) {
            return STATE;
        }
        w.rain = java.util.Arrays.copyOf(unfolded, 8);
        return measure(w.rain, 0);
    }

    int feed(int sign) {
        if (off(sign, 0, 127)) {
            return BAD;
        }
        if (text.length() == 100) {
            return FULL;
        }
        text.append((char) sign);
        return text.length();
    }

    static int fault(String s) {
        if (TEXT.matcher(s).matches()) {
            return -1;
        }
        for (int p = 0; p < s.length(); p++) {
            Matcher m = TEXT.matcher(s.substring(0, p + 1));
            if (!m.matches() && !m.hitEnd()) {
                return p;
            }
        }
        return s.length();
    }

    int read() {
        String s = text.toString();
        text.setLength(0);
        int fault = fault(s);
        if (fault >= 0) {
            return -10 - fault;
        }
        int done = 0;
        for (String clause : s.split(";")) {
            done += clause(clause.charAt(0), clause.substring(1)) ? 1 : 0;
        }
        return done;
    }

    private boolean clause(char letter, String rest) {
        if (letter == 'b') {
            return rest.charAt(0) != '0' && basin(Integer.parseInt(rest)) >= 0;
        }
        if (letter == 'k') {
            return hold(rest.charAt(0) - '0', rest.charAt(1) - '0', rest.charAt(2) - '0') >= 0;
        }
        int[] row = new int[letter == 'w' ? 8 : 12];
        int h = 0;
        for (String number : rest.split(",")) {
            row[h++] = Integer.parseInt(number);
        }
        if (letter == 'w' && measure(row, 1) > 20) {
            return false;
        }
        if (letter == 'w') {
            w.rain = row;
        } else {
            w.told = row;
        }
        return true;
    }

    int of(int side, int hour) {
        if (off(side, 0, 2)) {
            return NONE;
        }
        int[] row = side == 0 ? w.rain : side == 1 ? w.told : joined(w);
        return hour >= 0 && hour < row.length ? row[hour] : NONE;
    }

    int told(int basin, int what) {
        if (no(basin) || off(what, -1, 7)) {
            return NONE;
        }
        Basin b = w.basins.get(basin);
        if (what == -1) {
            return b.answer.size();
        }
        if (what == 5) {
            return b.kind;
        }
        if (what == 6) {
            return b.n;
        }
        if (what == 7) {
            return out(w.rain, b)[30];
        }
        return what < b.answer.size() ? b.answer.get(what) : 0;
    }

    int flow(int side, int basin, int hour) {
        if (off(side, 0, 1) || no(basin) || off(hour, 0, 29)) {
            return NONE;
        }
        Basin b = w.basins.get(basin);
        return side == 0 ? flow(w.rain, b)[hour] : out(w.rain, b)[hour];
    }

    int row(int side, int what) {
        if (off(side, 0, 5) || side > 2 && no(side - 3) || off(what, 0, 2)) {
            return NONE;
        }
        if (side > 2) {
            return measure(java.util.Arrays.copyOf(out(w.rain, w.basins.get(side - 3)), 30), what);
        }
        return measure(side == 0 ? w.rain : side == 1 ? w.told : joined(w), what);
    }

    int basins() {
        return w.basins.size();
    }

    int flaw(int basin) {
        return no(basin) ? NONE : unfolded(w.told, w.basins.get(basin))[8];
    }

    int unfold(int basin, int hour) {
        if (no(basin) || off(hour, 0, 7)) {
            return NONE;
        }
        int[] unfolded = unfolded(w.told, w.basins.get(basin));
        return unfolded[8] != -5 ? STATE : unfolded[hour];
    }

    int backFlaw() {
        return foundBack(w.told, w.rain)[5];
    }

    int back(int place) {
        if (off(place, 0, 4)) {
            return NONE;
        }
        int[] found = foundBack(w.told, w.rain);
        return found[5] != -6 ? STATE : found[place];
    }

    int nearest(int basin, int hour) {
        if (no(basin) || off(hour, 0, 3)) {
            return NONE;
        }
        int[] best = null;
        for (int a = 0; a <= 6; a++) {
            for (int b = 0; b <= 6; b++) {
                for (int c = 0; c <= 6; c++) {
                    int[] flow = flow(new int[] {a, b, c, 0, 0, 0, 0, 0}, w.basins.get(basin));
                    int squares = 0;
                    for (int h = 0; h < 12; h++) {
                        squares += (flow[h] - w.told[h]) * (flow[h] - w.told[h]);
                    }
                    if (best == null || squares < best[3]) {
                        best = new int[] {a, b, c, squares};
                    }
                }
            }
        }
        return best[hour];
    }

    int exchange(int what) {
        if (off(what, 0, 1)) {
            return NONE;
        }
        int[] best = {-5, measure(joined(w), 1)};
        for (int s = 0; s < 8; s++) {
            for (int t = s + 1; t < 8; t++) {
                World other = w.copy();
                other.rain[s] = w.rain[t];
                other.rain[t] = w.rain[s];
                int peak = measure(joined(other), 1);
                if (peak < best[1]) {
                    best = new int[] {10 * s + t, peak};
                }
            }
        }
        return best[what];
    }

    static int byHand(List<int[]> rows, int most, int hour, int n) {
        if (hour == -1) {
            rows.clear();
            return 0;
        }
        if (off(hour, 0, 29)) {
            return NONE;
        }
        if (off(n, 0, 9999)) {
            return BAD;
        }
        if (rows.size() == most) {
            return FULL;
        }
        rows.add(new int[] {hour, n});
        return rows.size();
    }

    int see(int hour, int n) {
        return byHand(w.seen, 5, hour, n);
    }

    int fits(int hour, int what) {
        if (off(hour, 0, 7) || off(what, 0, 1)) {
            return NONE;
        }
        List<Integer> fitting = new ArrayList<>();
        for (int v = 0; v <= 20; v++) {
            World other = w.copy();
            other.rain[hour] = v;
            int[] joined = joined(other);
            if (w.seen.stream().allMatch(row -> joined[row[0]] == row[1])) {
                fitting.add(v);
            }
        }
        return what == 0 ? fitting.size() : fitting.isEmpty() ? -5 : fitting.get(0);
    }

    long odds(int hour, int limit, int part) {
        if (off(hour, 0, 7) || off(limit, 0, 9999)) {
            return NO;
        }
        int above = 0;
        for (int v = 0; v <= 20; v++) {
            World other = w.copy();
            other.rain[hour] = v;
            above += measure(joined(other), 1) > limit ? 1 : 0;
        }
        return lowest(above, 21, part);
    }

    long mean(int part) {
        int hours = 0;
        for (int v : joined(w)) {
            hours += v > 0 ? 1 : 0;
        }
        return lowest(measure(joined(w), 0), hours, part);
    }

    int event(int what, int n) {
        if (what == -1) {
            w.events.clear();
            return 0;
        }
        if (off(what, 0, 3) || what < 2 && off(n, 0, 7) || what == 2 && no(n)) {
            return NONE;
        }
        if (what == 3 && off(n, 0, 7)) {
            return BAD;
        }
        if (w.events.size() == 8) {
            return FULL;
        }
        w.events.add(new int[] {what, n});
        return w.events.size();
    }

    int after(int what) {
        if (off(what, 0, 2)) {
            return NONE;
        }
        World then = w.copy();
        for (int[] row : w.events) {
            int n = row[1];
            if (row[0] == 0) {
                then.rain[n] = then.rain[n] > 10 ? 20 : then.rain[n] + then.rain[n];
            } else if (row[0] == 1) {
                then.rain[n] = 0;
            } else if (row[0] == 2) {
                then.basins.get(n).kind = 0;
            } else {
                int[] later = new int[8];
                for (int h = 0; h + n < 8; h++) {
                    later[h + n] = then.rain[h];
                }
                then.rain = later;
            }
        }
        return measure(joined(then), what == 0 ? 1 : what == 1 ? 2 : 0);
    }

    int book(int hour, int n) {
        return byHand(w.book, 8, hour, n);
    }

    int looked() {
        int[] joined = joined(w);
        for (int[] row : w.book) {
            if (joined[row[0]] != row[1]) {
                return w.book.indexOf(row);
            }
        }
        return -5;
    }

    int judge(int basin, int tape, int i) {
        if (no(basin) || off(tape, 0, 5)) {
            return NONE;
        }
        if (tapes[tape] == null) {
            return 100;
        }
        if (!(tapes[tape] instanceof short[] row)) {
            return -12;
        }
        if (i < 0) {
            return 100;
        }
        int[] out = out(w.rain, w.basins.get(basin));
        for (int h = 0; h < 30; h++) {
            if ((long) i + h >= row.length) {
                return 100 + h;
            }
            if (row[i + h] != out[h]) {
                return h;
            }
        }
        return -5;
    }

    int image() {
        image = w.copy();
        return w.basins.size();
    }

    int undo() {
        if (image == null) {
            return STATE;
        }
        w = image.copy();
        return w.basins.size();
    }

    int count(int what) {
        return what == 0 ? w.seen.size() : what == 1 ? w.events.size() : what == 2 ? w.book.size()
                : what == 3 ? text.length() : BAD;
    }

    int tape(int tape, int sort, int n) {
        if (off(tape, 0, 5)) {
            return NONE;
        }
        if (off(sort, -1, 4)) {
            return BAD;
        }
        if (sort == -1) {
            tapes[tape] = null;
            return 1;
        }
        if (n > 60) {
            return BAD;
        }
        if (n < 0) {
            return -14;
        }
        tapes[tape] = sort == 0 ? new byte[n] : sort == 1 ? new short[n] : sort == 2 ? new int[n]
                : sort == 3 ? new long[n] : new boolean[n];
        return 1;
    }

    static int size(Object row) {
        return java.lang.reflect.Array.getLength(row);
    }

    int item(int tape, int i, long v) {
        if (off(tape, 0, 5)) {
            return NONE;
        }
        Object row = tapes[tape];
        if (row == null) {
            return -11;
        }
        if (i < 0 || i >= size(row)) {
            return -13;
        }
        if (row instanceof byte[] b) {
            b[i] = (byte) v;
        } else if (row instanceof short[] s) {
            s[i] = (short) v;
        } else if (row instanceof int[] k) {
            k[i] = (int) v;
        } else if (row instanceof long[] l) {
            l[i] = v;
        } else {
            ((boolean[]) row)[i] = v != 0;
        }
        return 1;
    }

    long peek(int tape, int i) {
        if (off(tape, 0, 5) || tapes[tape] == null || i < 0 || i >= size(tapes[tape])) {
            return NO;
        }
        Object row = tapes[tape];
        return row instanceof boolean[] b ? (b[i] ? 1 : 0) : java.lang.reflect.Array.getLong(row, i);
    }

    int shift(int tape, int i, int other, int j, int n) {
        if (off(tape, 0, 5) || off(other, 0, 5)) {
            return NONE;
        }
        Object from = tapes[tape];
        Object to = tapes[other];
        if (from == null || to == null) {
            return -11;
        }
        if (from.getClass() != to.getClass()) {
            return -12;
        }
        if (n < 0 || i < 0 || j < 0 || (long) i + n > size(from) || (long) j + n > size(to)) {
            return -13;
        }
        long[] held = new long[n];
        for (int k = 0; k < n; k++) {
            held[k] = peek(tape, i + k);
        }
        for (int k = 0; k < n; k++) {
            item(other, j + k, held[k]);
        }
        return n;
    }
}
