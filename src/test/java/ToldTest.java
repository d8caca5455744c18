/** Promises 9 to 13. */
public final class ToldTest {
    private static final int NONE = -1;
    private static final Due due = new Due("ToldTest");

    public static void main(String[] args) {
        of();
        told();
        flowAndOut();
        reservoirs();
        stores();
        row();
        basins();
        due.end();
    }

    private static StormRunoff two() {
        StormRunoff x = new StormRunoff();
        x.basin(231);
        x.basin(42);
        Due.rainAll(x, 4, 0, 7, 20, 0, 0, 5, 0);
        return x;
    }

    private static void of() {
        StormRunoff x = two();
        Due.tellAll(x, 9, 8);
        due.row("9: RAIN", k -> x.of(0, k), 4, 0, 7, 20, 0, 0, 5, 0, NONE);
        due.row("9: TOLD", k -> x.of(1, k), 9, 8, 0, 0, 0, 0, 0, 0, 0, 0, 0, 0, NONE);
        due.row("9: JOINED", k -> x.of(2, k), 24, 20, 46, 155, 107, 20, 30, 25, 5, 0);
        due.is("9: JOINED of the last", x.of(2, 29), 0);
        due.is("9: hour above", x.of(2, 30), NONE);
        due.is("9: hour below", x.of(2, -1), NONE);
        due.is("9: hour below", x.of(0, -1), NONE);
        due.is("9: hour below", x.of(1, -1), NONE);
        due.is("9: side below", x.of(-1, 0), NONE);
        due.is("9: side above", x.of(3, 0), NONE);
        x.hold(1, 1, 9);
        due.row("9: JOINED of OUT, not of FLOW", k -> x.of(2, k),
                8, 12, 18, 61, 67, 20, 10, 15, 5, 16, 8, 28, 94, 40, 0, 20, 10, 0);
    }

    private static void told() {
        StormRunoff x = two();
        x.hold(0, 3, 9);
        due.is("10: how many", x.told(0, -1), 3);
        due.row("10: ANSWER, KIND, NUMBER, STORE", k -> x.told(0, k), 2, 3, 1, 0, 0, 3, 9, 0);
        due.is("10: what below", x.told(0, -2), NONE);
        due.is("10: what above", x.told(0, 8), NONE);
        due.is("10: no BASIN", x.told(2, 0), NONE);
        due.is("10: no BASIN", x.told(-1, 0), NONE);
        due.is("10: how many", x.told(1, -1), 2);
    }

    private static void flowAndOut() {
        StormRunoff x = two();
        due.row("11: FLOW", k -> x.flow(0, 0, k), 8, 12, 18, 61, 67, 20, 10, 15, 5, 0, 0, 0, 0);
        due.row("11: OUT through", k -> x.flow(1, 0, k), 8, 12, 18, 61, 67, 20, 10, 15, 5, 0, 0, 0, 0);
        due.row("11: FLOW of the other", k -> x.flow(0, 1, k), 16, 8, 28, 94, 40, 0, 20, 10, 0);
        due.is("11: the last hour", x.flow(0, 0, 29), 0);
        due.is("11: side below", x.flow(-1, 0, 0), NONE);
        due.is("11: side above", x.flow(2, 0, 0), NONE);
        due.is("11: no BASIN", x.flow(0, 2, 0), NONE);
        due.is("11: no BASIN", x.flow(0, -1, 0), NONE);
        due.is("11: hour below", x.flow(0, 0, -1), NONE);
        due.is("11: hour above", x.flow(1, 0, 30), NONE);
        StormRunoff wide = new StormRunoff();
        wide.basin(12345);
        wide.rain(7, 2);
        due.row("11: to hour 11", k -> wide.flow(0, 0, k), 0, 0, 0, 0, 0, 0, 0, 2, 4, 6, 8, 10, 0);
    }

    private static void reservoirs() {
        StormRunoff x = two();
        x.hold(0, 1, 0);
        due.row("11: LAG of 0", k -> x.flow(1, 0, k), 8, 12, 18, 61);
        x.hold(0, 1, 2);
        due.row("11: LAG of 2", k -> x.flow(1, 0, k), 0, 0, 8, 12, 18, 61, 67, 20, 10, 15, 5, 0);
        x.hold(0, 2, 3);
        due.row("11: POND by 3", k -> x.flow(1, 0, k), 2, 6, 10, 27, 40, 33, 26, 22, 16, 11, 7, 5, 3, 2, 2, 1);
        due.row("11: FLOW is as it was", k -> x.flow(0, 0, k), 8, 12, 18, 61);
        x.hold(0, 2, 1);
        due.row("11: POND by 1", k -> x.flow(1, 0, k), 8, 12, 18, 61);
        x.hold(0, 3, 9);
        due.row("11: GATE of 9", k -> x.flow(1, 0, k), 8, 9, 9, 9, 9, 9, 9, 9, 9, 9, 9, 9, 9, 9);
        x.hold(0, 3, 0);
        due.row("11: GATE of 0", k -> x.flow(1, 0, k), 0, 0, 0, 0, 0);
        x.hold(0, 4, 9);
        due.row("11: SPILL above 9", k -> x.flow(1, 0, k), 0, 11, 18, 61, 67, 20, 10, 15, 5, 0, 0);
        x.hold(0, 4, 0);
        due.row("11: SPILL above 0", k -> x.flow(1, 0, k), 8, 12, 18, 61);
    }

    private static void stores() {
        StormRunoff x = two();
        due.is("10: STORE of THROUGH", x.told(0, 7), 0);
        x.hold(0, 1, 9);
        due.is("10: STORE of LAG", x.told(0, 7), 0);
        x.hold(0, 2, 3);
        due.is("10: STORE of POND", x.told(0, 7), 2);
        x.hold(0, 3, 0);
        due.is("10: STORE of GATE 0", x.told(0, 7), 216);
        x.hold(0, 3, 1);
        due.is("10: STORE of GATE 1, 30 hours on", x.told(0, 7), 186);
        x.hold(0, 4, 9);
        due.is("10: STORE of SPILL", x.told(0, 7), 9);
    }

    private static void row() {
        StormRunoff x = two();
        Due.tellAll(x, 5, 70, 3, 70);
        due.row("12: RAIN", k -> x.row(0, k), 36, 20, 3, NONE);
        due.row("12: TOLD, the first of two", k -> x.row(1, k), 148, 70, 1, NONE);
        due.row("12: JOINED", k -> x.row(2, k), 432, 155, 3, NONE);
        due.row("12: OUT of 0", k -> x.row(3, k), 216, 67, 4, NONE);
        due.row("12: OUT of 1", k -> x.row(4, k), 216, 94, 3, NONE);
        x.hold(0, 3, 9);
        due.row("12: OUT through a GATE", k -> x.row(3, k), 216, 9, 1);
        due.is("12: no such BASIN", x.row(5, 0), NONE);
        due.is("12: side below", x.row(-1, 0), NONE);
        due.is("12: side above", x.row(6, 0), NONE);
        due.is("12: what below", x.row(0, -1), NONE);
        due.is("12: side far off", x.row(Integer.MIN_VALUE, 0), NONE);
        due.is("12: side far off", x.row(Integer.MAX_VALUE, 0), NONE);
        StormRunoff dry = new StormRunoff();
        due.row("12: all 0", k -> dry.row(2, k), 0, 0, 0, NONE);
        due.is("12: no BASIN yet", dry.row(3, 0), NONE);
    }

    private static void basins() {
        StormRunoff x = new StormRunoff();
        due.is("13: none", x.basins(), 0);
        x.basin(1);
        due.is("13: one", x.basins(), 1);
        x.basin(0);
        due.is("13: one", x.basins(), 1);
        x.basin(1);
        x.basin(1);
        x.basin(1);
        due.is("13: three", x.basins(), 3);
    }
}
