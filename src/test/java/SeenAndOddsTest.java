/** Promises 20 to 23. */
public final class SeenAndOddsTest {
    private static final int NONE = -1, BAD = -2, FULL = -4;
    private static final long NO = Long.MIN_VALUE;
    private static final Due due = new Due("SeenAndOddsTest");

    public static void main(String[] args) {
        see();
        fits();
        odds();
        mean();
        due.end();
    }

    private static void see() {
        StormRunoff x = new StormRunoff();
        due.is("20: hour below", x.see(-2, 0), NONE);
        due.is("20: hour above", x.see(30, 0), NONE);
        due.is("20: n below", x.see(0, -1), BAD);
        due.is("20: n above", x.see(0, 10000), BAD);
        due.is("20: NONE comes first", x.see(30, 10000), NONE);
        due.is("20: one", x.see(0, 0), 1);
        due.is("20: two", x.see(29, 9999), 2);
        due.is("20: the same hour again", x.see(29, 9999), 3);
        due.is("20: four", x.see(1, 1), 4);
        due.is("20: five", x.see(1, 1), 5);
        due.is("20: a sixth", x.see(1, 1), FULL);
        due.is("20: BAD ahead of FULL", x.see(1, 10000), BAD);
        due.is("20: how many", x.count(0), 5);
        due.is("20: none then, whatever the rest is", x.see(-1, 77777), 0);
        due.is("20: none", x.count(0), 0);
        due.is("20: one again", x.see(3, 3), 1);
    }

    private static void fits() {
        StormRunoff x = new StormRunoff();
        due.row("21: nothing SEEN", k -> x.fits(0, k), 21, 0, NONE);
        due.is("21: what below", x.fits(0, -1), NONE);
        due.is("21: hour below", x.fits(-1, 0), NONE);
        due.is("21: hour above", x.fits(8, 0), NONE);
        x.see(2, 12);
        due.row("21: none", k -> x.fits(0, k), 0, -5, NONE);
        x.basin(21);
        x.rain(1, 4);
        due.row("21: one", k -> x.fits(2, k), 1, 4);
        due.row("21: RAIN in place of its own", k -> x.fits(1, k), 1, 12);
        due.row("21: none by hour 0", k -> x.fits(0, k), 0, -5);
        due.is("21: RAIN is as it was", x.of(0, 1), 4);
        x.see(2, 12);
        due.row("21: SEEN twice", k -> x.fits(2, k), 1, 4);
        x.see(3, 4);
        due.row("21: two hours", k -> x.fits(2, k), 1, 4);
        x.see(3, 5);
        due.row("21: what can't be", k -> x.fits(2, k), 0, -5);
        StormRunoff y = new StormRunoff();
        y.basin(1);
        y.hold(0, 2, 4);
        y.see(0, 2);
        due.row("21: several, through a POND", k -> y.fits(0, k), 4, 8);
        y.hold(0, 4, 5);
        y.see(-1, 0);
        y.see(0, 0);
        due.row("21: through a SPILL", k -> y.fits(0, k), 6, 0);
        due.row("21: another hour", k -> y.fits(7, k), 21, 0);
    }

    private static void odds() {
        StormRunoff x = new StormRunoff();
        due.row("22: never", k -> x.odds(0, 0, k), 0, 1, NO);
        due.is("22: part below", x.odds(0, 0, -1), NO);
        due.is("22: hour below", x.odds(-1, 0, 0), NO);
        due.is("22: hour above", x.odds(8, 0, 0), NO);
        due.is("22: limit below", x.odds(0, -1, 0), NO);
        due.is("22: limit above", x.odds(0, 10000, 0), NO);
        due.is("22: the greatest limit", x.odds(0, 9999, 1), 1);
        x.basin(1);
        due.row("22: 20 of 21", k -> x.odds(0, 0, k), 20, 21);
        due.row("22: 7 of 21", k -> x.odds(0, 13, k), 1, 3);
        due.row("22: 6 of 21", k -> x.odds(7, 14, k), 2, 7);
        due.row("22: 1 of 21", k -> x.odds(7, 19, k), 1, 21);
        due.row("22: none of 21", k -> x.odds(7, 20, k), 0, 1);
        x.rain(3, 9);
        due.row("22: always", k -> x.odds(0, 8, k), 1, 1);
        due.row("22: in place of its own", k -> x.odds(3, 8, k), 4, 7);
        due.is("22: RAIN is as it was", x.of(0, 3), 9);
        x.hold(0, 3, 4);
        due.row("22: behind a GATE", k -> x.odds(0, 4, k), 0, 1);
    }

    private static void mean() {
        StormRunoff x = new StormRunoff();
        due.row("23: no hour above 0", k -> x.mean(k), NO, NO, NO);
        x.basin(12);
        x.rain(7, 1);
        due.row("23: 3 by 2, an hour of 1", k -> x.mean(k), 3, 2);
        x.rain(7, 0);
        x.rain(0, 3);
        due.row("23: 9 by 2", k -> x.mean(k), 9, 2, NO);
        due.is("23: part below", x.mean(-1), NO);
        x.rain(1, 1);
        due.row("23: 12 by 3", k -> x.mean(k), 4, 1);
        x.rain(5, 2);
        due.row("23: 18 by 5", k -> x.mean(k), 18, 5);
        x.basin(2);
        due.row("23: 30 by 5", k -> x.mean(k), 6, 1);
        x.hold(0, 3, 0);
        due.row("23: OUT, not FLOW: 12 by 3", k -> x.mean(k), 4, 1);
        x.rain(1, 0);
        x.rain(5, 0);
        due.row("23: 6 by 1", k -> x.mean(k), 6, 1);
        x.hold(1, 3, 0);
        due.row("23: all held back", k -> x.mean(k), NO, NO);
    }
}
