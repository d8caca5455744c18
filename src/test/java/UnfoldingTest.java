/** Promises 14 to 19. */
public final class UnfoldingTest {
    private static final int NONE = -1, STATE = -3;
    private static final Due due = new Due("UnfoldingTest");

    public static void main(String[] args) {
        flaw();
        unfold();
        backFlaw();
        back();
        nearest();
        exchange();
        due.end();
    }

    private static void flaw() {
        StormRunoff x = new StormRunoff();
        due.is("14: no BASIN", x.flaw(0), NONE);
        x.basin(23);
        due.is("14: below", x.flaw(-1), NONE);
        due.is("14: above", x.flaw(1), NONE);
        due.is("14: nothing told", x.flaw(0), -5);
        Due.tellAll(x, 1);
        due.is("14: not whole", x.flaw(0), 0);
        Due.tellAll(x, 4, 6, 2, 3);
        due.is("14: whole", x.flaw(0), -5);
        Due.tellAll(x, 4, 5, 2, 3);
        due.is("14: below 0, and odd", x.flaw(0), 1);
        Due.tellAll(x, 4, 4, 2, 3);
        due.is("14: below 0, and even", x.flaw(0), 1);
        Due.tellAll(x, 40, 60);
        due.is("14: 20", x.flaw(0), -5);
        Due.tellAll(x, 42, 63);
        due.is("14: 21", x.flaw(0), 0);
        Due.tellAll(x, 0, 0, 0, 0, 0, 0, 0, 2, 3);
        due.is("14: in hour 7", x.flaw(0), -5);
        Due.tellAll(x, 0, 0, 0, 0, 0, 0, 0, 1, 3);
        due.is("14: in hour 7", x.flaw(0), 7);
        Due.tellAll(x, 0, 0, 0, 0, 0, 0, 0, 2, 2, 9);
        due.is("14: less than nothing in hour 8", x.flaw(0), 8);
        Due.tellAll(x, 0, 0, 0, 0, 0, 0, 0, 2, 3, 0, 2, 1);
        due.is("14: something in hour 10", x.flaw(0), 10);
        Due.tellAll(x, 0, 0, 0, 0, 0, 0, 0, 0, 0, 0, 0, 1);
        due.is("14: something in hour 11", x.flaw(0), 11);
        x.hold(0, 3, 0);
        Due.tellAll(x, 4, 6);
        due.is("14: FLOW, not OUT", x.flaw(0), -5);
    }

    private static void unfold() {
        StormRunoff x = new StormRunoff();
        due.is("15: no BASIN", x.unfold(0, 0), NONE);
        x.basin(231);
        x.rain(0, 3);
        Due.tellAll(x, 8, 12, 18, 61, 67, 20, 10, 15, 5);
        due.row("15: UNFOLDED", k -> x.unfold(0, k), 4, 0, 7, 20, 0, 0, 5, 0, NONE);
        due.is("15: hour below", x.unfold(0, -1), NONE);
        due.is("15: above", x.unfold(1, 0), NONE);
        due.is("15: below", x.unfold(-1, 0), NONE);
        due.is("15: RAIN is as it was", x.of(0, 0), 3);
        due.is("15: TOLD is as it was", x.of(1, 3), 61);
        x.tell(11, 1);
        due.is("15: a FLAW", x.unfold(0, 0), STATE);
        due.is("15: NONE comes first", x.unfold(0, 8), NONE);
    }

    private static void backFlaw() {
        StormRunoff x = new StormRunoff();
        due.is("16: no RAIN", x.backFlaw(), -5);
        Due.tellAll(x, 5);
        due.is("16: no RAIN, though something is told", x.backFlaw(), -5);
        Due.rainAll(x, 0, 2, 1);
        Due.tellAll(x, 0, 4, 8, 3);
        due.is("16: 2, 3", x.backFlaw(), -6);
        Due.tellAll(x, 0, 3, 8, 3);
        due.is("16: not whole at 0", x.backFlaw(), 0);
        Due.tellAll(x, 0, 4, 1, 3);
        due.is("16: below 0 at 1", x.backFlaw(), 1);
        Due.tellAll(x, 0, 18, 9);
        due.is("16: 9", x.backFlaw(), -6);
        Due.tellAll(x, 0, 20, 10);
        due.is("16: 10", x.backFlaw(), 0);
        Due.tellAll(x, 0, 0, 0, 0, 0, 1);
        due.is("16: at the last place", x.backFlaw(), 4);
        Due.tellAll(x, 0, 0, 0, 0, 0, 2);
        due.is("16: left behind the places", x.backFlaw(), 16);
        Due.tellAll(x, 1, 4, 8, 3);
        due.is("16: left ahead of RAIN", x.backFlaw(), 10);
        Due.tellAll(x, 0, 4, 8, 3, 0, 0, 0, 0, 0, 0, 0, 7);
        due.is("16: left in the last hour", x.backFlaw(), 21);
        Due.rainAll(x, 0, 0, 0, 0, 0, 0, 0, 3);
        Due.tellAll(x, 0, 0, 0, 0, 0, 0, 0, 3, 0, 6, 0, 27);
        due.is("16: RAIN in hour 7", x.backFlaw(), -6);
        Due.rainAll(x, 1);
        Due.tellAll(x, 7, 3);
        due.is("16: RAIN of 1 in hour 0", x.backFlaw(), -6);
        due.row("17: RAIN of 1 in hour 0", k -> x.back(k), 7, 3, 0, 0, 0);
    }

    private static void back() {
        StormRunoff x = new StormRunoff();
        due.is("17: no RAIN", x.back(0), STATE);
        due.is("17: NONE comes first", x.back(5), NONE);
        due.is("17: below", x.back(-1), NONE);
        Due.rainAll(x, 0, 2, 0, 3);
        Due.tellAll(x, 0, 0, 2, 4, 3, 6, 0, 0);
        due.row("17: the first of it is 0", k -> x.back(k), 0, 1, 2, 0, 0, NONE);
        Due.rainAll(x, 0, 0, 0, 0, 0, 0, 0, 3);
        Due.tellAll(x, 0, 0, 0, 0, 0, 0, 0, 3, 0, 6, 0, 27);
        due.row("17: five places", k -> x.back(k), 1, 0, 2, 0, 9, NONE);
        x.tell(0, 1);
        due.is("17: a FLAW", x.back(0), STATE);
        due.is("17: RAIN is as it was", x.of(0, 7), 3);
    }

    private static void nearest() {
        StormRunoff x = new StormRunoff();
        due.is("18: no BASIN", x.nearest(0, 0), NONE);
        x.basin(231);
        due.row("18: nothing told", k -> x.nearest(0, k), 0, 0, 0, 0, NONE);
        due.is("18: hour below", x.nearest(0, -1), NONE);
        due.is("18: above", x.nearest(1, 0), NONE);
        due.is("18: below", x.nearest(-1, 0), NONE);
        Due.tellAll(x, 6, 13, 21, 20, 6);
        due.row("18: exactly", k -> x.nearest(0, k), 3, 2, 6, 0);
        Due.tellAll(x, 8, 12, 18, 61, 67, 20, 10, 15, 5);
        due.row("18: far off", k -> x.nearest(0, k), 0, 6, 6, 6048);
        x.hold(0, 3, 0);
        x.rain(0, 9);
        due.row("18: FLOW, not OUT", k -> x.nearest(0, k), 0, 6, 6, 6048);
        StormRunoff y = new StormRunoff();
        y.basin(2);
        Due.tellAll(y, 3, 0, 5);
        due.row("18: of several the first", k -> y.nearest(0, k), 1, 0, 2, 2);
        Due.tellAll(y, 999, 999, 999, 999, 999, 999, 999, 999, 999, 999, 999, 999);
        due.row("18: the most", k -> y.nearest(0, k), 6, 6, 6, 3 * 987 * 987 + 9 * 999 * 999);
    }

    private static void exchange() {
        StormRunoff x = new StormRunoff();
        due.row("19: no RAIN", k -> x.exchange(k), -5, 0, NONE);
        due.is("19: below", x.exchange(-1), NONE);
        x.basin(11);
        Due.rainAll(x, 5, 5, 0, 0, 0, 0, 0, 0);
        // 0 and 2 makes 0 5 5, still 10; 0 and 3 makes 0 5 0 5, as good as 1 and 3.
        due.row("19: of several the first", k -> x.exchange(k), 3, 5, NONE);
        due.row("19: RAIN is as it was", k -> x.of(0, k), 5, 5, 0, 0, 0, 0, 0, 0);
        Due.rainAll(x, 5, 0, 5, 0, 0, 0, 0, 0);
        due.row("19: none is less", k -> x.exchange(k), -5, 5);
        Due.rainAll(x, 9, 9, 1, 9, 1, 9, 1, 9);
        // Five nines in eight hours: two of them stand side by side, whatever is exchanged.
        due.row("19: no room", k -> x.exchange(k), -5, 18);
        Due.rainAll(x, 0, 0, 0, 0, 0, 0, 9, 9);
        due.row("19: 0 and 6", k -> x.exchange(k), 6, 9);
        x.hold(0, 3, 2);
        due.row("19: through the RESERVOIR", k -> x.exchange(k), -5, 2);
        StormRunoff z = new StormRunoff();
        z.basin(1);
        z.basin(1);
        z.hold(1, 1, 1);
        Due.rainAll(z, 1, 2, 3, 4, 9, 9, 3, 2);
        // JOINED is RAIN of each hour and of the one ahead, together.
        due.row("19: 12 by 0 and 4 (9 2 3 4 1 9 3 2)", k -> z.exchange(k), 4, 12);
        Due.rainAll(z, 5, 2, 5, 2, 5, 9, 9, 1);
        due.row("19: 14 by 0 and 5 (9 2 5 2 5 5 9 1), and by others behind", k -> z.exchange(k), 5, 14);
        Due.rainAll(z, 9, 1, 9, 1, 9, 1, 9, 9);
        due.row("19: no room for the fifth nine", k -> z.exchange(k), -5, 18);
        Due.rainAll(z, 9, 3, 9, 3, 3, 3, 9, 9);
        due.row("19: 4 and 6", k -> z.exchange(k), 46, 12);
        Due.rainAll(z, 9, 3, 9, 3, 9, 9, 3, 3);
        due.row("19: 4 and 7 ahead of 5 and 6 and of 5 and 7", k -> z.exchange(k), 47, 12);
        Due.rainAll(z, 3, 9, 3, 9, 3, 9, 9, 3);
        due.row("19: 6 and 7 alone", k -> z.exchange(k), 67, 12);
        StormRunoff y = new StormRunoff();
        y.basin(11111);
        Due.rainAll(y, 20, 0, 0, 0, 0, 0, 20, 20);
        // Within any five hours that JOINED sums up, two of the three always stand.
        due.row("19: none is less", k -> y.exchange(k), -5, 40);
        y.basin(9);
        // The two together answer 10 1 1 1 1: 200, and 20 more from one of the others.
        due.row("19: JOINED of two", k -> y.exchange(k), -5, 220);
    }
}
