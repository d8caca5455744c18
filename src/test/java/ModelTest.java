import java.util.Random;

/** All promises: long runs of calls, each answer held against the Model's. The seeds are fixed: each run is the same. */
public final class ModelTest {
    private static final Due due = new Due("ModelTest");
    private static final int[] EXTREMES = {Integer.MIN_VALUE, Integer.MAX_VALUE, -2, -1000, 1000, 100000, 1 << 30};
    private static Random dice;
    private static StormRunoff x;
    private static Model m;

    public static void main(String[] args) {
        for (int seed = 1; seed <= 600; seed++) {
            run(seed);
        }
        shortTexts();
        due.end();
    }

    private static void run(int seed) {
        dice = new Random(seed);
        x = new StormRunoff();
        m = new Model();
        // 512 calls at most, as the document has it; a turn makes no more than 130 of them.
        for (int calls = 0; calls < 380;) {
            calls += turn("seed " + seed + ", call " + calls + ": ");
        }
    }

    /** Each text of up to five of these signs: some of them are whole, most have a FAULT somewhere. */
    private static void shortTexts() {
        String signs = "bkwt;,05x";
        for (int length = 0, texts = 1; length <= 5; length++, texts *= signs.length()) {
            for (int k = 0; k < texts; k++) {
                StringBuilder s = new StringBuilder();
                for (int rest = k; s.length() < length; rest /= signs.length()) {
                    s.append(signs.charAt(rest % signs.length()));
                }
                if (k % 80 == 0) {
                    x = new StormRunoff();
                    m = new Model();
                }
                Due.feedAll(x, s.toString());
                m.text.append(s);
                due.is("read " + s, x.read(), m.read());
            }
        }
    }

    /** A number, mostly least .. most, at times just beside, seldom far off. */
    private static int some(int least, int most) {
        int d = dice.nextInt(60);
        if (d == 0) {
            return EXTREMES[dice.nextInt(EXTREMES.length)];
        }
        if (d < 4) {
            return d == 1 ? least - 1 : most + 1;
        }
        return least + dice.nextInt(most - least + 1);
    }

    private static int turn(String at) {
        int kind = dice.nextInt(100);
        if (kind < 8) {
            return text(at);
        }
        if (kind < 12) {
            return flowsThatWouldBe(at);
        }
        if (kind < 45) {
            change(at);
            return 1;
        }
        if (kind < 60) {
            tapes(at);
            return 1;
        }
        ask(at);
        return 1;
    }

    private static void change(String at) {
        int a = some(0, 7);
        int b = some(0, 20);
        switch (dice.nextInt(12)) {
            case 0:
            case 1:
                due.is(at + "rain " + a + " " + b, x.rain(a, b), m.rain(a, b));
                break;
            case 2:
                b = some(1, dice.nextBoolean() ? 99 : 99999);
                due.is(at + "basin " + b, x.basin(b), m.basin(b));
                break;
            case 3:
            case 4:
                a = some(0, 2);
                b = some(0, 4);
                int n = some(0, 9);
                due.is(at + "hold " + a + " " + b + " " + n, x.hold(a, b, n), m.hold(a, b, n));
                break;
            case 5:
                a = some(0, 11);
                b = some(0, dice.nextBoolean() ? 40 : 999);
                due.is(at + "tell " + a + " " + b, x.tell(a, b), m.tell(a, b));
                break;
            case 6:
                a = some(0, 2);
                due.is(at + "take " + a, x.take(a), m.take(a));
                break;
            case 7:
                a = dice.nextInt(5) == 0 ? -1 : some(-1, 29);
                b = dice.nextInt(3) == 0 ? some(0, 9999) : Math.max(0, m.of(2, a));
                due.is(at + "see " + a + " " + b, x.see(a, b), m.see(a, b));
                break;
            case 8:
                a = dice.nextInt(8) == 0 ? -1 : some(-1, 29);
                b = dice.nextInt(5) == 0 ? some(0, 9999) : Math.max(0, m.of(2, a));
                due.is(at + "book " + a + " " + b, x.book(a, b), m.book(a, b));
                break;
            case 9:
            case 10:
                a = dice.nextInt(15) == 0 ? -1 : some(0, 3);
                b = some(0, dice.nextBoolean() ? 2 : 7);
                due.is(at + "event " + a + " " + b, x.event(a, b), m.event(a, b));
                break;
            default:
                if (dice.nextInt(3) == 0) {
                    due.is(at + "image", x.image(), m.image());
                } else {
                    due.is(at + "undo", x.undo(), m.undo());
                }
                break;
        }
    }

    private static void ask(String at) {
        int a = some(0, 2);
        int b = some(0, 29);
        int c = some(0, 7);
        int d = some(0, 1);
        switch (dice.nextInt(20)) {
            case 0:
                due.is(at + "of " + a + " " + b, x.of(a, b), m.of(a, b));
                break;
            case 1:
                due.is(at + "of " + a + " " + c, x.of(a, c), m.of(a, c));
                break;
            case 2:
                c = some(-1, 7);
                due.is(at + "told " + a + " " + c, x.told(a, c), m.told(a, c));
                break;
            case 3:
            case 4:
                due.is(at + "flow " + d + " " + a + " " + b, x.flow(d, a, b), m.flow(d, a, b));
                break;
            case 5:
                b = some(0, 5);
                due.is(at + "row " + b + " " + a, x.row(b, a), m.row(b, a));
                break;
            case 6:
                due.is(at + "basins", x.basins(), m.basins());
                break;
            case 7:
                due.is(at + "flaw " + a, x.flaw(a), m.flaw(a));
                break;
            case 8:
                due.is(at + "unfold " + a + " " + c, x.unfold(a, c), m.unfold(a, c));
                break;
            case 9:
                due.is(at + "backFlaw", x.backFlaw(), m.backFlaw());
                break;
            case 10:
                c = some(0, 4);
                due.is(at + "back " + c, x.back(c), m.back(c));
                break;
            case 11:
                c = some(0, 3);
                due.is(at + "nearest " + a + " " + c, x.nearest(a, c), m.nearest(a, c));
                break;
            case 12:
                due.is(at + "exchange " + d, x.exchange(d), m.exchange(d));
                break;
            case 13:
            case 14:
                due.is(at + "fits " + c + " " + d, x.fits(c, d), m.fits(c, d));
                break;
            case 15:
                b = some(0, dice.nextBoolean() ? 100 : 9999);
                due.is(at + "odds " + c + " " + b + " " + d, x.odds(c, b, d), m.odds(c, b, d));
                break;
            case 16:
                due.is(at + "mean " + d, x.mean(d), m.mean(d));
                break;
            case 17:
                due.is(at + "after " + a, x.after(a), m.after(a));
                break;
            case 18:
                due.is(at + "looked", x.looked(), m.looked());
                break;
            default:
                c = some(0, 3);
                due.is(at + "count " + c, x.count(c), m.count(c));
                break;
        }
    }

    private static void tapes(String at) {
        int t = some(0, 5);
        int i = some(0, dice.nextBoolean() ? 6 : 60);
        int o = some(0, 5);
        int j = some(0, dice.nextBoolean() ? 6 : 60);
        int n = some(0, dice.nextBoolean() ? 4 : 40);
        switch (dice.nextInt(7)) {
            case 0:
            case 1:
                int sort = dice.nextInt(3) > 0 ? 1 : some(-1, 4);
                n = some(0, 60);
                due.is(at + "tape " + t + " " + sort + " " + n, x.tape(t, sort, n), m.tape(t, sort, n));
                break;
            case 2:
                long v = dice.nextLong() >> dice.nextInt(64);
                due.is(at + "item " + t + " " + i + " " + v, x.item(t, i, v), m.item(t, i, v));
                break;
            case 3:
                due.is(at + "peek " + t + " " + i, x.peek(t, i), m.peek(t, i));
                break;
            case 4:
            case 5:
                due.is(at + "shift " + t + " " + i + " " + o + " " + j + " " + n, x.shift(t, i, o, j, n),
                        m.shift(t, i, o, j, n));
                break;
            default:
                int b = some(0, 2);
                due.is(at + "judge " + b + " " + t + " " + i, x.judge(b, t, i), m.judge(b, t, i));
                break;
        }
    }

    /** A text that is nearly as told, with a sign otherwise at times. */
    private static int text(String at) {
        StringBuilder s = new StringBuilder();
        int clauses = 1 + dice.nextInt(dice.nextInt(4) == 0 ? 14 : 4);
        for (int c = 0; c < clauses; c++) {
            s.append(c > 0 ? ";" : "").append(clause());
        }
        int spoilt = dice.nextInt(3);
        if (spoilt == 0) {
            s.insert(dice.nextInt(s.length() + 1), "bkwt;,0129x ".charAt(dice.nextInt(12)));
        } else if (spoilt == 1 && dice.nextBoolean()) {
            s.setLength(dice.nextInt(s.length() + 1));
        }
        String text = s.length() > 102 ? s.substring(0, 102) : s.toString();
        for (int k = 0; k < text.length(); k++) {
            due.is(at + "feed", x.feed(text.charAt(k)), m.feed(text.charAt(k)));
        }
        due.is(at + "read " + text, x.read(), m.read());
        return text.length() + 1;
    }

    private static String clause() {
        StringBuilder s = new StringBuilder();
        switch (dice.nextInt(4)) {
            case 0:
                s.append('b');
                digits(s, 1 + dice.nextInt(dice.nextInt(8) == 0 ? 6 : 5));
                return s.toString();
            case 1:
                return s.append('k').append(dice.nextInt(4)).append(dice.nextInt(6)).append(dice.nextInt(10)).toString();
            case 2:
                s.append('w');
                numbers(s, dice.nextInt(8) == 0 ? 9 : 8, dice.nextInt(5) == 0 ? 22 : 21);
                return s.toString();
            default:
                s.append('t');
                numbers(s, dice.nextInt(8) == 0 ? 13 : 12, dice.nextInt(8) == 0 ? 1100 : 100);
                return s.toString();
        }
    }

    private static void digits(StringBuilder s, int n) {
        for (int k = 0; k < n; k++) {
            s.append(dice.nextInt(10));
        }
    }

    private static void numbers(StringBuilder s, int most, int below) {
        int n = dice.nextInt(4) == 0 ? most : 1 + dice.nextInt(most);
        for (int k = 0; k < n; k++) {
            s.append(k > 0 ? "," : "").append(dice.nextInt(9) == 0 ? "0" : "").append(dice.nextInt(below));
        }
    }

    /** TOLD becomes FLOW or OUT, a TAPE OUT of a BASIN, now and then with one number otherwise. */
    private static int flowsThatWouldBe(String at) {
        int b = dice.nextInt(3);
        int side = dice.nextInt(5) == 0 ? 1 : 0;
        if (dice.nextInt(3) == 0) {
            return outOnATape(at, b);
        }
        int otherwise = dice.nextInt(20);
        for (int h = 0; h < 12; h++) {
            int v = Math.max(0, m.flow(side, b, h)) + (h == otherwise ? 1 + dice.nextInt(6) : 0);
            due.is(at + "tell " + h + " " + v, x.tell(h, v), m.tell(h, v));
        }
        for (int k = 0; k < 3; k++) {
            due.is(at + "flaw " + k, x.flaw(k), m.flaw(k));
        }
        due.is(at + "backFlaw", x.backFlaw(), m.backFlaw());
        for (int a = 0; a < 5; a++) {
            due.is(at + "back " + a, x.back(a), m.back(a));
        }
        return 21;
    }

    private static int outOnATape(String at, int b) {
        int t = dice.nextInt(6);
        int i = dice.nextInt(40);
        due.is(at + "tape", x.tape(t, 1, 60), m.tape(t, 1, 60));
        for (int h = 0; h < 30; h++) {
            long v = m.flow(1, b, h);
            due.is(at + "item", x.item(t, i + h, v), m.item(t, i + h, v));
        }
        due.is(at + "judge " + b + " " + t + " " + i, x.judge(b, t, i), m.judge(b, t, i));
        int o = dice.nextInt(60);
        due.is(at + "item", x.item(t, o, 1), m.item(t, o, 1));
        due.is(at + "judge " + b + " " + t + " " + i, x.judge(b, t, i), m.judge(b, t, i));
        return 34;
    }
}
