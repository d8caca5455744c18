/** For each sentence of Promises 14 to 27 that names a boundary case a test of its own. */
public final class AskedBoundariesTest {
    private static final Boundaries on = new Boundaries("AskedBoundariesTest");

    public static void main(String[] args) {
        flaw();
        flawNone();
        unfold();
        unfoldNone();
        unfoldState();
        backFlaw();
        backFlawNoRain();
        back();
        backNone();
        backState();
        nearest();
        nearestNone();
        exchange();
        exchangeNone();
        see();
        seeNone();
        seeBad();
        seeFull();
        fits();
        fitsNone();
        odds();
        oddsNo();
        mean();
        meanNo();
        event();
        eventNone();
        eventBad();
        eventFull();
        after();
        afterNone();
        book();
        bookNone();
        bookBad();
        bookFull();
        looked();
        String[] promises = new String[14];
        for (int k = 0; k < promises.length; k++) {
            promises[k] = "Promise " + (k + 14);
        }
        on.end(promises);
    }

    // ---- promises 14 to 17

    private static void flaw() {
        on.sentence("Promise 14", "FLAW by a BASIN; -5: none.");
        on.calls("basin(2)", "flaw(0) = -5");
        for (int h = 0; h <= 11; h++) {
            // Odd: no hour 0 .. 7 can be so; behind those it is left, odd or not.
            on.calls("tell(" + h + ", " + (h < 8 ? 1 : 2) + ")", "flaw(0) = " + h, "tell(" + h + ", 0)", "flaw(0) = -5");
        }
        on.calls("tell(7, 2)", "flaw(0) = -5", "tell(7, 40)", "flaw(0) = -5", "tell(7, 42)", "flaw(0) = 7");
        on.calls("basin(1)", "flaw(1) = 7", "tell(7, 1)", "flaw(1) = -5", "flaw(0) = 7");
    }

    private static void flawNone() {
        on.sentence("Promise 14", "NONE: basin.");
        on.outside("flaw(*) = NONE", 0, -1);
        on.rich();
        on.outside("flaw(*) = NONE", 0, 1);
        on.calls("flaw(0) = 0", "flaw(1) = -5", "basin(1)", "flaw(2) = 3", "flaw(3) = NONE");
    }

    private static void unfold() {
        on.sentence("Promise 15", "UNFOLDED RAIN of an hour (0 .. 7).");
        on.rich();
        on.calls("rain(1, 20)");
        on.row("unfold(1, *)", 4, 0, 7, 20, 0, 0, 5, 0, -1);
        on.calls("tell(7, 17)", "tell(8, 8)", "tell(9, 1)", "unfold(1, 7) = 1", "of(0, 7) = 0", "of(0, 1) = 20");
        on.anew();
        on.calls("basin(1)");
        on.row("unfold(0, *)", 0, 0, 0, 0, 0, 0, 0, 0, -1);
    }

    private static void unfoldNone() {
        on.sentence("Promise 15", "NONE: basin, hour;");
        on.outside("unfold(*, 0) = NONE", 0, -1);
        on.rich();
        on.outside("unfold(*, 0) = NONE", 0, 1);
        on.outside("unfold(1, *) = NONE", 0, 7);
        on.calls("unfold(1, 0) = 4", "unfold(1, 7) = 0", "unfold(0, 7) = STATE", "unfold(0, 8) = NONE");
    }

    private static void unfoldState() {
        on.sentence("Promise 15", "STATE: there is a FLAW.");
        on.rich();
        on.calls("unfold(0, 0) = STATE", "unfold(0, 7) = STATE", "unfold(1, 0) = 4", "tell(11, 1)", "unfold(1, 0) = STATE");
        on.calls("tell(11, 0)", "tell(8, 6)", "unfold(1, 0) = STATE", "tell(8, 4)", "unfold(1, 0) = STATE");
        on.calls("tell(8, 5)", "unfold(1, 0) = 4", "tell(7, 16)", "unfold(1, 0) = STATE", "tell(7, 15)");
        // A whole number, 0 .. 20, on both sides.
        on.calls("basin(1)", "tell(3, 21)", "unfold(2, 0) = STATE");
        on.anew();
        on.calls("basin(3)", "tell(0, 60)", "unfold(0, 0) = 20", "tell(0, 63)", "unfold(0, 0) = STATE", "tell(0, 2)");
        on.calls("unfold(0, 1) = STATE", "tell(0, 0)", "unfold(0, 1) = 0");
    }

    private static void backFlaw() {
        on.sentence("Promise 16", "FLAW of what is FOUND BACK (0 .. 4; 10 .. 21); -6: none.");
        on.calls("rain(0, 2)", "backFlaw() = -6");
        for (int h = 0; h <= 11; h++) {
            on.calls("tell(" + h + ", 1)", "backFlaw() = " + (h < 5 ? h : 10 + h), "tell(" + h + ", 0)", "backFlaw() = -6");
        }
        on.calls("tell(4, 18)", "backFlaw() = -6", "tell(4, 20)", "backFlaw() = 4");
        on.anew();
        on.calls("rain(7, 1)", "backFlaw() = -6");
        for (int h = 0; h <= 6; h++) {
            on.calls("tell(" + h + ", 1)", "backFlaw() = " + (10 + h), "tell(" + h + ", 0)");
        }
        for (int h = 7; h <= 11; h++) {
            on.calls("tell(" + h + ", 9)", "backFlaw() = -6", "tell(" + h + ", 10)", "backFlaw() = " + (h - 7), "tell(" + h + ", 0)");
        }
    }

    private static void backFlawNoRain() {
        on.sentence("Promise 16", "-5: there is no RAIN.");
        on.calls("backFlaw() = -5", "tell(0, 1)", "backFlaw() = -5", "basin(1)", "backFlaw() = -5");
        for (int h = 7; h >= 0; h--) {
            on.calls("rain(" + h + ", 1)", "backFlaw() = " + (h == 0 ? -6 : 10), "rain(" + h + ", 0)", "backFlaw() = -5");
        }
    }

    private static void back() {
        on.sentence("Promise 17", "FOUND BACK at a place (0 .. 4).");
        on.calls("rain(2, 3)", "rain(3, 1)", "tell(2, 27)", "tell(3, 9)", "tell(6, 3)", "tell(7, 1)", "backFlaw() = -6");
        on.row("back(*)", 9, 0, 0, 0, 1, -1);
        on.rich();
        on.row("back(*)", 2, 3, 1, 0, 0, -1);
    }

    private static void backNone() {
        on.sentence("Promise 17", "NONE: place;");
        on.outside("back(*) = NONE", 0, 4);
        on.calls("back(0) = STATE", "back(4) = STATE");
        on.rich();
        on.outside("back(*) = NONE", 0, 4);
        on.calls("back(0) = 2", "back(4) = 0");
    }

    private static void backState() {
        on.sentence("Promise 17", "STATE: there is a FLAW, no RAIN.");
        on.calls("back(0) = STATE", "back(4) = STATE", "rain(7, 1)", "back(0) = 0", "back(4) = 0", "rain(7, 0)");
        on.calls("back(0) = STATE");
        on.rich();
        // FLAW at a place, in the last hour, in the first one.
        on.calls("back(0) = 2", "tell(0, 9)", "back(0) = STATE", "tell(0, 8)", "back(0) = 2", "tell(11, 1)", "back(0) = STATE");
        on.calls("tell(11, 0)", "back(4) = 0", "rain(0, 0)", "backFlaw() = 0", "back(0) = STATE", "back(4) = STATE");
    }

    // ---- promises 18 and 19

    private static void nearest() {
        on.sentence("Promise 18", "NEAREST by a BASIN: RAIN of an hour (0 .. 2); hour 3: the squares, together.");
        on.rich();
        on.row("nearest(0, *)", 2, 2, 4, 8972, -1);
        on.row("nearest(1, *)", 0, 6, 6, 6048, -1);
        on.anew();
        on.calls("basin(9)", "basin(1)");
        on.row("nearest(0, *)", 0, 0, 0, 0, -1);
        for (int h = 0; h < 12; h++) {
            on.calls("tell(" + h + ", 999)");
        }
        on.row("nearest(0, *)", 6, 6, 6, 3 * 945 * 945 + 9 * 999 * 999, -1);
        on.row("nearest(1, *)", 6, 6, 6, 3 * 993 * 993 + 9 * 999 * 999, -1);
    }

    private static void nearestNone() {
        on.sentence("Promise 18", "NONE: basin, hour.");
        on.outside("nearest(*, 0) = NONE", 0, -1);
        on.rich();
        on.outside("nearest(*, 0) = NONE", 0, 1);
        on.outside("nearest(0, *) = NONE", 0, 3);
        on.calls("nearest(0, 0) = 2", "nearest(1, 0) = 0", "nearest(1, 3) = 6048");
    }

    private static void exchange() {
        on.sentence("Promise 19", "EXCHANGED: what 0 10 s + t (-5: none), 1 PEAK of JOINED then (as now, if none).");
        on.row("exchange(*)", -5, 0, -1);
        on.rich();
        on.row("exchange(*)", 3, 38, -1);
        on.anew();
        on.calls("basin(11)", "rain(3, 7)");
        on.row("exchange(*)", -5, 7, -1);
        on.calls("rain(4, 7)");
        on.row("exchange(*)", 3, 7, -1);
        on.calls("rain(4, 0)", "rain(0, 2)", "rain(1, 2)");
        on.row("exchange(*)", -5, 7, -1);
        on.reads("w0,0,0,0,0,0,5,5", 1);
        on.row("exchange(*)", 6, 5, -1);
        // Of RAIN alike no exchange is less; the last two hours are the last two to be exchanged.
        on.reads("w5,5,5,5,5,5,5,5", 1);
        on.row("exchange(*)", -5, 10, -1);
        on.anew();
        on.calls("basin(11)");
        on.reads("w3,9,3,9,3,9,9,3", 1);
        on.row("exchange(*)", 67, 12, -1);
    }

    private static void exchangeNone() {
        on.sentence("Promise 19", "NONE: what.");
        on.outside("exchange(*) = NONE", 0, 1);
        on.rich();
        on.outside("exchange(*) = NONE", 0, 1);
        on.calls("exchange(0) = 3", "exchange(1) = 38");
    }

    // ---- promises 20 to 23

    private static void see() {
        on.sentence("Promise 20", "What is SEEN comes: how many there are (hour -1: none then, 0, whatever the rest is).");
        on.calls("see(0, 0) = 1", "see(29, 9999) = 2", "count(0) = 2", "fits(0, 0) = 0", "see(-1, 0) = 0", "count(0) = 0");
        on.calls("fits(0, 0) = 21", "see(-1, -1) = 0", "see(-1, 10000) = 0", "see(-1, 2147483647) = 0");
        on.calls("see(-1, -2147483648) = 0", "see(0, 0) = 1", "see(0, 0) = 2", "fits(0, 0) = 21", "see(0, 1) = 3");
        on.calls("fits(0, 0) = 0", "see(-1, 77777) = 0", "count(0) = 0", "see(29, 0) = 1", "fits(0, 0) = 21");
    }

    private static void seeNone() {
        on.sentence("Promise 20", "NONE: hour;");
        on.rich();
        on.calls("see(-2, 1) = NONE", "see(30, 1) = NONE", "see(-2147483648, 1) = NONE", "see(2147483647, 1) = NONE");
        on.calls("count(0) = 3", "see(29, 0) = 4", "see(0, 10) = 5", "fits(0, 0) = 1", "fits(0, 1) = 4");
    }

    private static void seeBad() {
        on.sentence("Promise 20", "BAD: n (0 .. 9999);");
        on.rich();
        on.outside("see(1, *) = BAD", 0, 9999);
        on.calls("see(29, 0) = 4", "fits(0, 0) = 1", "see(28, 9999) = 5", "fits(0, 0) = 0");
    }

    private static void seeFull() {
        on.sentence("Promise 20", "FULL: 5.");
        on.rich();
        on.calls("see(1, 14) = 4", "see(2, 18) = 5", "see(3, 1) = FULL", "see(0, 9999) = FULL", "count(0) = 5");
        on.calls("fits(0, 0) = 1", "fits(0, 1) = 4", "see(-1, 0) = 0", "see(3, 1) = 1", "fits(0, 0) = 0");
    }

    private static void fits() {
        on.sentence("Promise 21", "FITS: what 0 how many, 1 the least; -5.");
        on.row("fits(0, *)", 21, 0, -1);
        on.rich();
        on.row("fits(0, *)", 1, 4, -1);
        on.row("fits(7, *)", 1, 0, -1);
        on.anew();
        on.calls("basin(1)", "hold(0, 2, 9)", "see(0, 2)");
        on.row("fits(0, *)", 3, 18, -1);
        on.row("fits(1, *)", 0, -5, -1);
        on.calls("see(1, 9999)");
        on.row("fits(0, *)", 0, -5, -1);
        on.calls("see(-1, 0)", "see(0, 1)");
        on.row("fits(0, *)", 9, 9, -1);
        on.calls("see(-1, 0)", "see(0, 0)");
        on.row("fits(0, *)", 9, 0, -1);
    }

    private static void fitsNone() {
        on.sentence("Promise 21", "NONE: hour (0 .. 7), what.");
        on.rich();
        on.outside("fits(*, 0) = NONE", 0, 7);
        on.outside("fits(*, 1) = NONE", 0, 7);
        on.outside("fits(0, *) = NONE", 0, 1);
        on.calls("fits(0, 0) = 1", "fits(0, 1) = 4", "fits(7, 0) = 1", "fits(7, 1) = 0");
    }

    private static void odds() {
        on.sentence("Promise 22", "ODDS; part 0 above, 1 below the line.");
        on.rich();
        on.row("odds(0, 48, *)", 16, 21, Long.MIN_VALUE);
        on.anew();
        on.row("odds(7, 0, *)", 0, 1, Long.MIN_VALUE);
        on.calls("basin(99999)");
        on.row("odds(7, 0, *)", 20, 21);
        on.row("odds(7, 179, *)", 1, 21);
        on.row("odds(7, 180, *)", 0, 1);
        on.calls("rain(0, 1)");
        on.row("odds(7, 0, *)", 1, 1);
        // 9 in hour 0 by itself: above 8 always, above 9 by all but 0 and 1.
        on.row("odds(7, 8, *)", 1, 1);
        on.row("odds(7, 9, *)", 19, 21);
        on.row("odds(7, 53, *)", 5, 7);
        on.row("odds(7, 54, *)", 2, 3);
    }

    private static void oddsNo() {
        on.sentence("Promise 22", "NO: hour (0 .. 7), limit (0 .. 9999), part.");
        on.rich();
        on.outside("odds(*, 0, 0) = NO", 0, 7);
        on.outside("odds(0, *, 0) = NO", 0, 9999);
        on.outside("odds(0, 0, *) = NO", 0, 1);
        on.calls("odds(0, 0, 0) = 1", "odds(7, 0, 1) = 1", "odds(0, 9999, 0) = 0", "odds(7, 9999, 1) = 1");
    }

    private static void mean() {
        on.sentence("Promise 23", "MEAN; part likewise.");
        on.rich();
        on.row("mean(*)", 394, 23, Long.MIN_VALUE);
        on.outside("mean(*) = NO", 0, 1);
        on.anew();
        on.calls("basin(22)", "rain(0, 2)");
        on.row("mean(*)", 4, 1, Long.MIN_VALUE);
        on.calls("rain(1, 1)");
        on.row("mean(*)", 4, 1, Long.MIN_VALUE);
        on.calls("rain(2, 1)");
        on.row("mean(*)", 4, 1, Long.MIN_VALUE);
        on.calls("rain(2, 2)");
        on.row("mean(*)", 5, 1, Long.MIN_VALUE);
        on.calls("rain(7, 1)");
        on.row("mean(*)", 4, 1, Long.MIN_VALUE);
        on.calls("rain(7, 2)");
        on.row("mean(*)", 14, 3, Long.MIN_VALUE);
    }

    private static void meanNo() {
        on.sentence("Promise 23", "NO.");
        on.calls("mean(0) = NO", "mean(1) = NO", "rain(0, 1)", "mean(0) = NO", "basin(1)", "mean(0) = 1", "mean(1) = 1");
        on.calls("hold(0, 3, 0)", "mean(0) = NO", "mean(1) = NO", "hold(0, 3, 1)", "mean(0) = 1", "rain(0, 0)");
        on.calls("mean(0) = NO", "mean(1) = NO");
    }

    // ---- promises 24 to 27

    private static void event() {
        on.sentence("Promise 24", "A row comes to EVENTS: how many there are (what -1: none then, 0, whatever the rest is).");
        on.calls("basin(1)", "rain(0, 3)", "event(0, 0) = 1", "event(1, 7) = 2", "event(2, 0) = 3", "event(3, 7) = 4");
        on.calls("after(0) = 6", "after(1) = 7", "event(-1, 0) = 0", "count(1) = 0", "after(0) = 3", "after(1) = 0");
        on.calls("event(-1, -1) = 0", "event(-1, 8) = 0", "event(-1, 2147483647) = 0", "event(-1, -2147483648) = 0");
        on.calls("event(0, 0) = 1", "after(0) = 6", "event(-1, 99) = 0", "after(0) = 3", "event(3, 0) = 1", "after(0) = 3");
    }

    private static void eventNone() {
        on.sentence("Promise 24", "NONE: what (0 .. 3), hour n (0 .. 7), BASIN n;");
        on.calls("event(2, 0) = NONE", "count(1) = 0", "event(0, 0) = 1", "event(1, 0) = 2");
        on.rich();
        on.calls("event(-2, 0) = NONE", "event(4, 0) = NONE", "event(-2147483648, 0) = NONE", "event(2147483647, 0) = NONE");
        on.outside("event(0, *) = NONE", 0, 7);
        on.outside("event(1, *) = NONE", 0, 7);
        on.outside("event(2, *) = NONE", 0, 1);
        on.calls("event(0, 7) = 4", "event(1, 7) = 5", "event(2, 1) = 6", "event(2, 2) = NONE", "basin(1)", "event(2, 2) = 7");
        on.calls("event(2, 3) = NONE", "event(3, 0) = 8");
    }

    private static void eventBad() {
        on.sentence("Promise 24", "BAD: n hours;");
        on.rich();
        on.outside("event(3, *) = BAD", 0, 7);
        on.calls("event(3, 0) = 4", "after(0) = 130", "event(3, 7) = 5", "after(0) = 0");
    }

    private static void eventFull() {
        on.sentence("Promise 24", "FULL: 8.");
        on.rich();
        for (int k = 4; k <= 8; k++) {
            on.calls("event(3, 0) = " + k);
        }
        on.calls("event(0, 4) = FULL", "event(1, 4) = FULL", "event(2, 1) = FULL", "event(3, 7) = FULL", "count(1) = 8");
        on.calls("after(0) = 130", "event(-1, 0) = 0", "event(1, 3) = 1", "after(0) = 21");
    }

    private static void after() {
        on.sentence("Promise 25", "AFTER: what 0 PEAK, 1 its hour, 2 VOLUME.");
        on.row("after(*)", 0, 0, 0, -1);
        on.rich();
        on.row("after(*)", 130, 4, 438, -1);
        on.calls("event(3, 7)");
        on.row("after(*)", 0, 0, 0, -1);
        on.calls("event(-1, 0)");
        on.row("after(*)", 48, 4, 394, -1);
        on.row("row(2, *)", 394, 48, 4, -1);
    }

    private static void afterNone() {
        on.sentence("Promise 25", "NONE.");
        on.outside("after(*) = NONE", 0, 2);
        on.rich();
        on.outside("after(*) = NONE", 0, 2);
        on.calls("after(0) = 130", "after(2) = 438");
    }

    private static void book() {
        on.sentence("Promise 26", "A row comes to the BOOK: how many there are (hour -1: it is empty then, 0, whatever "
                + "the rest is).");
        on.calls("book(0, 0) = 1", "book(29, 9999) = 2", "count(2) = 2", "looked() = 1", "book(-1, 0) = 0", "count(2) = 0");
        on.calls("looked() = -5", "book(-1, -1) = 0", "book(-1, 10000) = 0", "book(-1, 2147483647) = 0");
        on.calls("book(-1, -2147483648) = 0", "book(0, 0) = 1", "book(0, 0) = 2", "looked() = -5", "book(0, 1) = 3");
        on.calls("looked() = 2", "book(-1, 77777) = 0", "looked() = -5", "book(29, 1) = 1", "looked() = 0");
    }

    private static void bookNone() {
        on.sentence("Promise 26", "NONE: hour (0 .. 29);");
        on.rich();
        on.calls("book(-2, 1) = NONE", "book(30, 1) = NONE", "book(-2147483648, 1) = NONE", "book(2147483647, 1) = NONE");
        on.calls("count(2) = 2", "book(29, 0) = 3", "book(0, 10) = 4", "looked() = -5");
    }

    private static void bookBad() {
        on.sentence("Promise 26", "BAD: n (0 .. 9999);");
        on.rich();
        on.outside("book(1, *) = BAD", 0, 9999);
        on.calls("book(28, 0) = 3", "looked() = -5", "book(28, 9999) = 4", "looked() = 3");
    }

    private static void bookFull() {
        on.sentence("Promise 26", "FULL: 8.");
        on.rich();
        for (int k = 3; k <= 8; k++) {
            on.calls("book(0, 10) = " + k);
        }
        on.calls("book(0, 11) = FULL", "book(29, 0) = FULL", "count(2) = 8", "looked() = -5");
        on.calls("book(-1, 0) = 0", "book(0, 11) = 1", "looked() = 0");
    }

    private static void looked() {
        on.sentence("Promise 27", "LOOKED at; -5.");
        on.calls("looked() = -5", "book(0, 0) = 1", "looked() = -5", "book(0, 1) = 2", "looked() = 1");
        on.rich();
        on.calls("looked() = -5", "book(0, 11) = 3", "looked() = 2", "book(0, 12) = 4", "looked() = 2", "rain(7, 1)");
        on.calls("looked() = 2", "rain(3, 19)", "looked() = 0", "rain(3, 20)", "looked() = 2", "book(-1, 0)", "looked() = -5");
        for (int k = 0; k < 7; k++) {
            on.calls("book(1, 14) = " + (k + 1), "looked() = -5");
        }
        on.calls("book(29, 1) = 8", "looked() = 7");
    }
}
