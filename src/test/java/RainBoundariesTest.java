/** For each sentence of Promises 1 to 13 that names a boundary case a test of its own. */
public final class RainBoundariesTest {
    private static final Boundaries on = new Boundaries("RainBoundariesTest");

    public static void main(String[] args) {
        newObject();
        rain();
        rainNone();
        rainBad();
        basin();
        basinBad();
        basinFull();
        hold();
        holdNone();
        holdBad();
        tell();
        tellNone();
        tellBad();
        take();
        takeNone();
        takeState();
        feed();
        feedBad();
        feedFull();
        read();
        readFault();
        of();
        ofNone();
        told();
        toldNone();
        flow();
        flowNone();
        row();
        rowNone();
        basins();
        String[] promises = new String[13];
        for (int k = 0; k < promises.length; k++) {
            promises[k] = "Promise " + (k + 1);
        }
        on.end(promises);
    }

    private static void newObject() {
        on.sentence("Promise 1", "No RAIN, no BASINS.");
        on.row("of(0, *)", 0, 0, 0, 0, 0, 0, 0, 0, -1);
        on.row("of(1, *)", 0, 0, 0, 0, 0, 0, 0, 0, 0, 0, 0, 0, -1);
        on.calls("basins() = 0", "told(0, -1) = NONE", "backFlaw() = -5", "row(0, 0) = 0", "row(2, 0) = 0");
        on.calls("row(3, 0) = NONE", "undo() = STATE");
        on.row("count(*)", 0, 0, 0, 0, -2);
        on.calls("rain(0, 1) = 0", "basin(1) = 0", "basins() = 1", "told(0, -1) = 1", "backFlaw() = -6", "row(2, 0) = 1");
        // Another object is new, whatever came to the first.
        on.anew();
        on.calls("row(0, 0) = 0", "basins() = 0", "told(0, -1) = NONE");
    }

    // ---- promises 2 to 6

    private static void rain() {
        on.sentence("Promise 2", "RAIN of an hour becomes v: what it was.");
        on.calls("rain(0, 20) = 0", "rain(0, 1) = 20", "rain(0, 1) = 1", "rain(0, 0) = 1", "rain(0, 5) = 0");
        on.calls("rain(7, 19) = 0", "rain(7, 20) = 19");
        on.row("of(0, *)", 5, 0, 0, 0, 0, 0, 0, 20, -1);
    }

    private static void rainNone() {
        on.sentence("Promise 2", "NONE: hour (0 .. 7);");
        on.rich();
        on.outside("rain(*, 5) = NONE", 0, 7);
        on.calls("rain(0, 5) = 4", "rain(7, 5) = 0", "row(0, 0) = 42");
    }

    private static void rainBad() {
        on.sentence("Promise 2", "BAD.");
        on.rich();
        on.outside("rain(0, *) = BAD", 0, 20);
        on.outside("rain(7, *) = BAD", 0, 20);
        on.calls("rain(0, 20) = 4", "rain(0, 0) = 20", "rain(7, 20) = 0", "rain(7, 0) = 20");
    }

    private static void basin() {
        on.sentence("Promise 3", "A BASIN by the digits of a number (1 .. 99999), the highest first (that first of "
                + "ANSWER): its number.");
        on.calls("basin(1) = 0", "basin(99999) = 1", "basin(10203) = 2", "basins() = 3");
        on.row("told(0, *)", 1, 0, 0, 0, 0, 0, 0, 0, -1);
        on.row("told(1, *)", 9, 9, 9, 9, 9, 0, 0, 0, -1);
        on.row("told(2, *)", 1, 0, 2, 0, 3, 0, 0, 0, -1);
        on.calls("told(0, -1) = 1", "told(1, -1) = 5", "told(2, -1) = 5");
        for (int answer = 1, places = 1; places < 5; answer *= 10, places++) {
            on.anew();
            on.calls("basin(" + (10 * answer - 1) + ") = 0", "told(0, -1) = " + places, "told(0, 0) = 9");
            on.calls("basin(" + 10 * answer + ") = 1", "told(1, -1) = " + (places + 1), "told(1, 0) = 1", "told(1, 1) = 0");
        }
    }

    private static void basinBad() {
        on.sentence("Promise 3", "BAD;");
        on.rich();
        on.outside("basin(*) = BAD", 1, 99999);
        on.calls("basins() = 2", "basin(99999) = 2");
        on.anew();
        on.outside("basin(*) = BAD", 1, 99999);
        on.calls("basins() = 0", "basin(1) = 0");
    }

    private static void basinFull() {
        on.sentence("Promise 3", "FULL: 3.");
        on.rich();
        on.calls("basins() = 2", "basin(7) = 2", "basins() = 3", "basin(8) = FULL", "basin(1) = FULL", "basins() = 3");
        on.row("told(*, 0)", 5, 2, 7, -1);
        // Fewer by undo, so that there is room again.
        on.calls("undo() = 1", "basin(8) = 1", "basin(9) = 2", "basin(1) = FULL");
        on.row("told(*, 0)", 5, 8, 9, -1);
    }

    private static void hold() {
        on.sentence("Promise 4", "The RESERVOIR of a BASIN becomes so: 10 times the KIND and the NUMBER that were.");
        on.calls("basin(1)", "hold(0, 0, 0) = 0", "hold(0, 4, 9) = 0", "hold(0, 1, 0) = 49", "hold(0, 0, 9) = 10");
        on.calls("hold(0, 2, 1) = 9", "hold(0, 2, 9) = 21", "hold(0, 3, 0) = 29", "hold(0, 3, 5) = 30");
        on.calls("told(0, 5) = 3", "told(0, 6) = 5", "basin(1) = 1", "hold(1, 4, 1) = 0", "hold(0, 3, 5) = 35");
        on.calls("told(1, 5) = 4", "told(1, 6) = 1");
    }

    private static void holdNone() {
        on.sentence("Promise 4", "NONE: basin;");
        on.outside("hold(*, 1, 1) = NONE", 0, -1);
        on.rich();
        on.outside("hold(*, 1, 1) = NONE", 0, 1);
        on.calls("hold(0, 1, 1) = 38", "hold(1, 1, 1) = 23", "hold(2, 1, 1) = NONE", "basin(1) = 2", "hold(2, 1, 1) = 0");
        on.outside("hold(*, 1, 1) = NONE", 0, 2);
    }

    private static void holdBad() {
        on.sentence("Promise 4", "BAD: kind (0 .. 4), n (0 .. 9; POND 1 .. 9).");
        on.rich();
        on.outside("hold(0, *, 5) = BAD", 0, 4);
        on.outside("hold(0, 0, *) = BAD", 0, 9);
        on.outside("hold(0, 1, *) = BAD", 0, 9);
        on.outside("hold(0, 2, *) = BAD", 1, 9);
        on.outside("hold(0, 3, *) = BAD", 0, 9);
        on.outside("hold(0, 4, *) = BAD", 0, 9);
        on.calls("hold(0, 0, 0) = 38", "hold(0, 0, 9) = 0", "hold(0, 1, 0) = 9", "hold(0, 1, 9) = 10", "hold(0, 2, 1) = 19");
        on.calls("hold(0, 2, 9) = 21", "hold(0, 3, 0) = 29", "hold(0, 3, 9) = 30", "hold(0, 4, 0) = 39", "hold(0, 4, 9) = 40");
        // A NUMBER 0 stays refused for a POND, whatever KIND there was with it.
        on.calls("hold(0, 0, 0) = 49", "hold(0, 2, 0) = BAD", "told(0, 5) = 0");
    }

    private static void tell() {
        on.sentence("Promise 5", "TOLD of an hour becomes v: what it was.");
        on.calls("tell(0, 999) = 0", "tell(0, 1) = 999", "tell(0, 1) = 1", "tell(0, 0) = 1", "tell(0, 5) = 0");
        on.calls("tell(11, 998) = 0", "tell(11, 999) = 998");
        on.row("of(1, *)", 5, 0, 0, 0, 0, 0, 0, 0, 0, 0, 0, 999, -1);
    }

    private static void tellNone() {
        on.sentence("Promise 5", "NONE: hour (0 .. 11);");
        on.rich();
        on.outside("tell(*, 5) = NONE", 0, 11);
        on.calls("tell(0, 5) = 8", "tell(11, 5) = 0", "row(1, 0) = 218");
    }

    private static void tellBad() {
        on.sentence("Promise 5", "BAD.");
        on.rich();
        on.outside("tell(0, *) = BAD", 0, 999);
        on.outside("tell(11, *) = BAD", 0, 999);
        on.calls("tell(0, 999) = 8", "tell(0, 0) = 999", "tell(11, 999) = 0", "tell(11, 0) = 999");
    }

    private static void take() {
        on.sentence("Promise 6", "RAIN becomes UNFOLDED by a BASIN: its VOLUME.");
        on.rich();
        on.calls("rain(1, 9) = 0", "rain(7, 9) = 0", "take(1) = 36", "row(0, 0) = 36");
        on.row("of(0, *)", 4, 0, 7, 20, 0, 0, 5, 0, -1);
        on.row("of(1, *)", 8, 12, 18, 61, 67, 20, 10, 15, 5, 0, 0, 0, -1);
        on.anew();
        // Nothing told, then the most that can be.
        on.calls("rain(3, 3)", "basin(1)", "take(0) = 0", "row(0, 0) = 0");
        for (int h = 0; h < 8; h++) {
            on.calls("tell(" + h + ", 20)");
        }
        on.calls("take(0) = 160", "row(0, 0) = 160", "of(0, 0) = 20", "of(0, 7) = 20");
    }

    private static void takeNone() {
        on.sentence("Promise 6", "NONE: basin;");
        on.outside("take(*) = NONE", 0, -1);
        on.rich();
        on.outside("take(*) = NONE", 0, 1);
        on.calls("take(1) = 36", "basin(1)", "take(3) = NONE", "take(2) = STATE");
    }

    private static void takeState() {
        on.sentence("Promise 6", "STATE: there is a FLAW.");
        on.rich();
        on.calls("flaw(0) = 0", "take(0) = STATE", "tell(11, 1)", "flaw(1) = 11", "take(1) = STATE");
        on.calls("tell(11, 0)", "tell(7, 16)", "flaw(1) = 7", "take(1) = STATE", "tell(7, 15)", "take(1) = 36");
    }

    // ---- promises 7 and 8

    private static void feed() {
        on.sentence("Promise 7", "A sign (0 .. 127) comes behind THE TEXT's: how many it has.");
        on.calls("feed(0) = 1", "feed(127) = 2", "count(3) = 2", "read() = -10", "feed(119) = 1", "feed(50) = 2");
        on.calls("feed(48) = 3", "count(3) = 3", "read() = 1", "of(0, 0) = 20", "feed(119) = 1");
    }

    private static void feedBad() {
        on.sentence("Promise 7", "BAD;");
        on.rich();
        on.outside("feed(*) = BAD", 0, 127);
        // By its lowest bits it would be a sign.
        on.calls("feed(304) = BAD", "feed(-208) = BAD", "count(3) = 6", "feed(127) = 7", "feed(0) = 8", "read() = -16");
    }

    private static void feedFull() {
        on.sentence("Promise 7", "FULL.");
        on.feedAll("t1,2,3,4,5,6,7,8,9,10,11,12;" + "w1;".repeat(8) + "t1,2,3,4,5,6,7,8,9,10,11,12;w001,002,3,4,5,6,7");
        on.calls("count(3) = 98", "feed(44) = 99", "feed(56) = 100", "feed(56) = FULL", "feed(0) = FULL", "feed(127) = FULL");
        on.calls("count(3) = 100", "read() = 11", "of(0, 7) = 8", "count(3) = 0", "feed(56) = 1");
    }

    private static void read() {
        on.sentence("Promise 8", "THE TEXT, which is empty then (by a FAULT, too), is a set-up: how many CLAUSES were "
                + "done;");
        on.reads("w1;b2;t3;k019", 4);
        on.calls("of(0, 0) = 1", "told(0, 0) = 2", "of(1, 0) = 3", "told(0, 5) = 1", "told(0, 6) = 9", "read() = -10");
        on.reads("w21;b0", 0);
        on.reads("w21;b4", 1);
        on.faultAt(6, "w7;b5;");
        on.reads("w8", 1);
        on.calls("of(0, 0) = 8", "basins() = 2", "feed(98) = 1", "read() = -11", "feed(98) = 1", "count(3) = 1");
    }

    private static void readFault() {
        on.sentence("Promise 8", "-10 less the FAULT OF THE TEXT.");
        on.calls("read() = -10", "feed(59) = 1", "read() = -10", "feed(119) = 1", "read() = -11");
        on.rich();
        on.calls("feed(59) = 7", "read() = -17", "basins() = 2", "of(1, 0) = 8", "count(3) = 0");
        on.faultAt(99, "t111,222,333,444,555,666,777,888,999,111,222,333;w1,2,3,4,5,6,7,8;t1,2,3,4,5,6,7,8,9,10,11,12;b12;bx");
    }

    // ---- promises 9 to 13

    private static void of() {
        on.sentence("Promise 9", "RAIN (side 0; hour 0 .. 7), TOLD (1; 0 .. 11), JOINED (2; 0 .. 29) of an hour.");
        on.rich();
        on.row("of(0, *)", 4, 0, 7, 20, 0, 0, 5, 0, -1);
        on.row("of(1, *)", 8, 12, 18, 61, 67, 20, 10, 15, 5, 0, 0, 0, -1);
        on.row("of(2, *)", 10, 14, 18, 35, 48, 41, 34, 30, 24, 19, 15, 13, 11, 10, 10, 9, 9, 8, 8, 8, 8, 8, 4, 0, 0, 0, 0,
                0, 0, 0, -1);
    }

    private static void ofNone() {
        on.sentence("Promise 9", "NONE: side, hour.");
        on.rich();
        on.outside("of(*, 0) = NONE", 0, 2);
        on.outside("of(0, *) = NONE", 0, 7);
        on.outside("of(1, *) = NONE", 0, 11);
        on.outside("of(2, *) = NONE", 0, 29);
        on.calls("of(0, 7) = 0", "of(1, 11) = 0", "of(2, 29) = 0", "of(0, 0) = 4", "of(1, 0) = 8", "of(2, 0) = 10");
    }

    private static void told() {
        on.sentence("Promise 10", "Of a BASIN how many numbers its ANSWER has (what -1), a number of it (0 .. 4; 0, if "
                + "it has none there), KIND (5), NUMBER (6), STORE behind hour 29 (7).");
        on.calls("basin(5)", "basin(98765)", "basin(70)", "hold(0, 1, 9)", "hold(1, 3, 1)", "hold(2, 4, 6)", "rain(0, 1)");
        on.row("told(*, -1)", 1, 5, 2, -1);
        on.row("told(0, *)", 5, 0, 0, 0, 0, 1, 9, 0, -1);
        // FLOW is 35; 30 hours let 1 each out.
        on.row("told(1, *)", 9, 8, 7, 6, 5, 3, 1, 5, -1);
        on.row("told(2, *)", 7, 0, 0, 0, 0, 4, 6, 6, -1);
    }

    private static void toldNone() {
        on.sentence("Promise 10", "NONE: basin, what.");
        on.outside("told(*, 5) = NONE", 0, -1);
        on.rich();
        on.outside("told(*, 5) = NONE", 0, 1);
        on.outside("told(1, *) = NONE", -1, 7);
        on.calls("told(0, 5) = 3", "told(1, 5) = 2", "told(1, -1) = 3", "told(1, 7) = 2", "basin(1)", "told(2, 5) = 0");
        on.calls("told(3, 5) = NONE");
    }

    private static void flow() {
        on.sentence("Promise 11", "FLOW of a BASIN in an hour (side 0), OUT (1).");
        on.rich();
        on.row("flow(0, 0, *)", 20, 0, 35, 100, 0, 0, 25, 0, 0, 0, 0, 0, 0);
        on.row("flow(1, 0, *)", 8, 8, 8, 8, 8, 8, 8, 8, 8, 8, 8, 8, 8, 8, 8, 8, 8, 8, 8, 8, 8, 8, 4, 0, 0, 0, 0, 0, 0, 0,
                -1);
        on.row("flow(0, 1, *)", 8, 12, 18, 61, 67, 20, 10, 15, 5, 0, 0, 0, 0);
        on.row("flow(1, 1, *)", 2, 6, 10, 27, 40, 33, 26, 22, 16, 11, 7, 5, 3, 2, 2, 1, 1, 0);
    }

    private static void flowNone() {
        on.sentence("Promise 11", "NONE: side, basin, hour (0 .. 29).");
        on.calls("flow(0, 0, 0) = NONE", "flow(1, 0, 0) = NONE");
        on.rich();
        on.outside("flow(*, 0, 0) = NONE", 0, 1);
        on.outside("flow(0, *, 0) = NONE", 0, 1);
        on.outside("flow(1, *, 0) = NONE", 0, 1);
        on.outside("flow(0, 0, *) = NONE", 0, 29);
        on.outside("flow(1, 0, *) = NONE", 0, 29);
        on.calls("flow(0, 0, 0) = 20", "flow(1, 1, 0) = 2", "flow(0, 1, 29) = 0", "flow(1, 0, 29) = 0");
    }

    private static void row() {
        on.sentence("Promise 12", "Of RAIN (side 0), TOLD (1), JOINED (2), OUT of BASIN side less 3 (3 .. 5) VOLUME "
                + "(what 0), PEAK (1), its hour (2).");
        on.rich();
        on.row("row(0, *)", 36, 20, 3, -1);
        on.row("row(1, *)", 216, 67, 4, -1);
        on.row("row(2, *)", 394, 48, 4, -1);
        on.row("row(3, *)", 180, 8, 0, -1);
        on.row("row(4, *)", 214, 40, 4, -1);
        on.row("row(5, *)", -1, -1, -1, -1);
        on.calls("basin(1) = 2");
        on.row("row(5, *)", 36, 20, 3, -1);
        on.row("row(6, *)", -1, -1, -1, -1);
        on.row("row(2, *)", 430, 55, 3, -1);
    }

    private static void rowNone() {
        on.sentence("Promise 12", "NONE: side (no such BASIN, too), what.");
        on.outside("row(*, 0) = NONE", 0, 2);
        on.calls("row(2, 0) = 0", "basin(1)", "row(3, 0) = 0", "row(4, 0) = NONE", "row(5, 0) = NONE", "basin(1)");
        on.calls("row(4, 0) = 0", "row(5, 0) = NONE", "basin(1)", "row(5, 0) = 0", "row(6, 0) = NONE");
        on.outside("row(*, 0) = NONE", 0, 5);
        for (int side = 0; side <= 5; side++) {
            on.outside("row(" + side + ", *) = NONE", 0, 2);
            on.calls("row(" + side + ", 0) = 0", "row(" + side + ", 2) = 0");
        }
    }

    private static void basins() {
        on.sentence("Promise 13", "How many BASINS.");
        on.calls("basins() = 0", "basin(0) = BAD", "basins() = 0", "basin(1) = 0", "basins() = 1", "basin(1) = 1");
        on.calls("basins() = 2", "image() = 2", "basin(1) = 2", "basins() = 3", "basin(1) = FULL", "basins() = 3");
        on.calls("undo() = 2", "basins() = 2");
        on.reads("b1;b2", 1);
        on.calls("basins() = 3");
    }
}
