/** Promises 24 to 27. */
public final class EventsAndBooksTest {
    private static final int NONE = -1, BAD = -2, FULL = -4;
    private static final Due due = new Due("EventsAndBooksTest");

    public static void main(String[] args) {
        event();
        after();
        book();
        looked();
        due.end();
    }

    private static void event() {
        StormRunoff x = new StormRunoff();
        due.is("24: what below", x.event(-2, 0), NONE);
        due.is("24: what above", x.event(4, 0), NONE);
        due.is("24: hour below", x.event(0, -1), NONE);
        due.is("24: hour above", x.event(0, 8), NONE);
        due.is("24: hour below", x.event(1, -1), NONE);
        due.is("24: hour above", x.event(1, 8), NONE);
        due.is("24: no BASIN", x.event(2, 0), NONE);
        due.is("24: hours below", x.event(3, -1), BAD);
        due.is("24: hours above", x.event(3, 8), BAD);
        due.is("24: none came", x.count(1), 0);
        x.basin(1);
        due.is("24: BASIN below", x.event(2, -1), NONE);
        due.is("24: BASIN above", x.event(2, 1), NONE);
        due.is("24: one", x.event(2, 0), 1);
        due.is("24: two", x.event(0, 7), 2);
        due.is("24: three", x.event(1, 0), 3);
        due.is("24: four", x.event(3, 7), 4);
        due.is("24: five", x.event(3, 0), 5);
        x.event(0, 0);
        x.event(0, 0);
        due.is("24: eight", x.event(0, 0), 8);
        due.is("24: a ninth", x.event(0, 0), FULL);
        due.is("24: a ninth", x.event(3, 0), FULL);
        due.is("24: NONE ahead of FULL", x.event(0, 8), NONE);
        due.is("24: BAD ahead of FULL", x.event(3, 8), BAD);
        due.is("24: how many", x.count(1), 8);
        due.is("24: none then, whatever the rest is", x.event(-1, 99), 0);
        due.is("24: none", x.count(1), 0);
    }

    private static void after() {
        StormRunoff x = new StormRunoff();
        due.row("25: nothing", k -> x.after(k), 0, 0, 0, NONE);
        due.is("25: what below", x.after(-1), NONE);
        x.basin(12);
        Due.rainAll(x, 3, 0, 11);
        due.row("25: no EVENTS", k -> x.after(k), 22, 3, 42, NONE);
        x.event(0, 0);
        due.row("25: twice as much", k -> x.after(k), 22, 3, 51);
        x.event(0, 2);
        due.row("25: 20 at most", k -> x.after(k), 40, 3, 78);
        x.event(1, 2);
        due.row("25: 0", k -> x.after(k), 12, 1, 18);
        x.event(3, 7);
        due.row("25: 7 hours later", k -> x.after(k), 12, 8, 18);
        x.event(3, 1);
        due.row("25: behind hour 7", k -> x.after(k), 0, 0, 0);
        due.row("25: RAIN is as it was", k -> x.of(0, k), 3, 0, 11, 0, 0, 0, 0, 0);
        x.event(-1, 0);
        x.event(3, 6);
        due.row("25: a part behind hour 7", k -> x.after(k), 6, 7, 9);
        x.event(-1, 0);
        x.event(3, 0);
        due.row("25: 0 hours later", k -> x.after(k), 22, 3, 42);
        x.event(-1, 0);
        x.event(3, 2);
        x.event(0, 2);
        due.row("25: one behind the other", k -> x.after(k), 22, 5, 51);
        x.event(-1, 0);
        x.hold(0, 3, 5);
        due.row("25: through the GATE", k -> x.after(k), 5, 1, 42);
        x.event(2, 0);
        due.row("25: THROUGH", k -> x.after(k), 22, 3, 42);
        due.is("25: KIND is as it was", x.told(0, 5), 3);
        due.is("25: PEAK is as it was", x.row(2, 1), 5);
        x.basin(1);
        due.row("25: JOINED", k -> x.after(k), 22, 2, 56);
    }

    private static void book() {
        StormRunoff x = new StormRunoff();
        due.is("26: hour below", x.book(-2, 0), NONE);
        due.is("26: hour above", x.book(30, 0), NONE);
        due.is("26: n below", x.book(0, -1), BAD);
        due.is("26: n above", x.book(0, 10000), BAD);
        due.is("26: NONE comes first", x.book(30, -1), NONE);
        for (int k = 1; k <= 8; k++) {
            due.is("26: how many", x.book(k == 1 ? 0 : 29, k == 1 ? 0 : 9999), k);
        }
        due.is("26: a ninth", x.book(0, 0), FULL);
        due.is("26: BAD ahead of FULL", x.book(0, 10000), BAD);
        due.is("26: how many", x.count(2), 8);
        due.is("26: empty then, whatever the rest is", x.book(-1, -5), 0);
        due.is("26: empty", x.count(2), 0);
    }

    private static void looked() {
        StormRunoff x = new StormRunoff();
        due.is("27: an empty BOOK", x.looked(), -5);
        x.book(0, 0);
        due.is("27: so it is", x.looked(), -5);
        x.book(29, 0);
        due.is("27: the last hour", x.looked(), -5);
        x.book(29, 1);
        due.is("27: the third", x.looked(), 2);
        x.book(-1, 0);
        x.basin(2);
        x.basin(3);
        x.rain(4, 5);
        x.book(4, 25);
        x.book(5, 0);
        due.is("27: JOINED", x.looked(), -5);
        x.hold(1, 1, 1);
        due.is("27: OUT, not FLOW", x.looked(), 0);
        x.hold(1, 0, 0);
        x.book(4, 24);
        x.book(4, 23);
        due.is("27: the first of two", x.looked(), 2);
    }
}
