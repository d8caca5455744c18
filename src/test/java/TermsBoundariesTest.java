/** For each sentence of the document's Terms that names a boundary case a test of its own. */
public final class TermsBoundariesTest {
    private static final String TERMS = "Terms";
    private static final Boundaries on = new Boundaries("TermsBoundariesTest");

    public static void main(String[] args) {
        calls();
        rain();
        basins();
        reservoir();
        hours();
        flow();
        storeAhead();
        through();
        lag();
        pond();
        gate();
        spill();
        joined();
        volume();
        peak();
        told();
        unfoldedWhole();
        unfoldedTakenAway();
        flaw();
        foundBack();
        foundBackFlaw();
        noRain();
        firstMayBeZero();
        clauses();
        clauseOfBasin();
        clauseOfRain();
        clauseOfReservoir();
        clauseOfTold();
        numbers();
        nothingBetween();
        fault();
        done();
        askedChangesNothing();
        nearest();
        exchanged();
        seen();
        fits();
        odds();
        mean();
        eventTwice();
        eventDry();
        eventThrough();
        eventLater();
        eventRows();
        after();
        book();
        looked();
        image();
        no();
        tapes();
        judged();
        judgedShort();
        hostsRefusals();
        answers();
        firstNamed();
        refusedChangesNothing();
        on.end("What it is", TERMS);
    }

    private static void sentence(String words) {
        on.sentence(TERMS, words);
    }

    private static void calls() {
        on.sentence("What it is", "An object is used for at most 512 calls after it has been made; "
                + "what later calls answer is free.");
        on.uses512Calls();
    }

    // ---- RAIN, BASINS, RESERVOIRS

    private static void rain() {
        sentence("RAIN: of hours 0 .. 7 a number each (0 .. 20; 0 at first).");
        on.row("of(0, *)", 0, 0, 0, 0, 0, 0, 0, 0, -1);
        on.calls("rain(0, 20) = 0", "rain(7, 20) = 0", "rain(7, 0) = 20", "rain(6, 1) = 0");
        on.calls("rain(0, 21) = BAD", "rain(0, -1) = BAD", "rain(8, 1) = NONE", "rain(-1, 1) = NONE");
        on.row("of(0, *)", 20, 0, 0, 0, 0, 0, 1, 0, -1);
    }

    private static void basins() {
        sentence("BASINS 0 .. 2, as they come, each with an ANSWER: 1 to 5 numbers (0 .. 9), the first above 0;");
        on.calls("basins() = 0", "told(0, -1) = NONE", "basin(0) = BAD", "basins() = 0");
        on.calls("basin(1) = 0", "told(0, -1) = 1", "told(1, -1) = NONE");
        on.calls("basin(90909) = 1", "told(1, -1) = 5", "basin(99) = 2", "told(2, -1) = 2", "told(3, -1) = NONE");
        on.calls("basin(1) = FULL", "basin(100000) = BAD", "basins() = 3");
        on.row("told(0, *)", 1, 0, 0, 0, 0);
        on.row("told(1, *)", 9, 0, 9, 0, 9);
        on.row("told(2, *)", 9, 9, 0, 0, 0);
        on.anew();
        on.reads("b0;b01;b00001", 0);
        on.calls("basins() = 0");
        on.reads("b10", 1);
        on.calls("basins() = 1", "told(0, 0) = 1");
    }

    private static void reservoir() {
        sentence("and a RESERVOIR: a KIND, a NUMBER n (0 .. 9; THROUGH, 0 at first).");
        on.calls("basin(7)", "told(0, 5) = 0", "told(0, 6) = 0", "hold(0, 0, 0) = 0");
        for (int kind = 0; kind <= 4; kind++) {
            on.calls("hold(0, " + kind + ", 9)", "told(0, 5) = " + kind, "told(0, 6) = 9");
            on.calls("hold(0, " + kind + ", 10) = BAD", "hold(0, " + kind + ", -1) = BAD");
            on.calls("hold(0, " + kind + ", 0) = " + (kind == 2 ? "BAD" : "" + (10 * kind + 9)));
        }
        on.calls("basin(7)", "told(1, 5) = 0", "told(1, 6) = 0");
    }

    private static void hours() {
        sentence("HOURS 0 .. 29.");
        on.calls("basin(9)", "hold(0, 3, 1)", "rain(0, 20)");
        on.calls("of(2, 0) = 1", "of(2, 29) = 1", "of(2, 30) = NONE", "of(2, -1) = NONE");
        on.calls("flow(1, 0, 0) = 1", "flow(1, 0, 29) = 1", "flow(1, 0, 30) = NONE", "flow(1, 0, -1) = NONE");
        on.calls("flow(0, 0, 0) = 180", "flow(0, 0, 29) = 0", "flow(0, 0, 30) = NONE");
        on.calls("row(2, 0) = 30", "told(0, 7) = 150");
    }

    private static void flow() {
        sentence("FLOW of a BASIN in an hour: of all hours of RAIN, s, and all places of its ANSWER, a, with s and a "
                + "together that hour: RAIN times ANSWER, together (0 .. 11 alone may be above 0).");
        on.calls("basin(12345)");
        on.row("flow(0, 0, *)", 0, 0, 0, 0, 0, 0, 0, 0, 0, 0, 0, 0, 0);
        on.calls("rain(0, 3)", "rain(7, 2)");
        on.row("flow(0, 0, *)", 3, 6, 9, 12, 15, 0, 0, 2, 4, 6, 8, 10, 0, 0, 0, 0, 0, 0, 0, 0, 0, 0, 0, 0, 0, 0, 0, 0,
                0, 0, -1);
        on.calls("rain(6, 1)");
        on.row("flow(0, 0, *)", 3, 6, 9, 12, 15, 0, 1, 4, 7, 10, 13, 10, 0);
        on.calls("basin(1)", "rain(7, 20)");
        on.row("flow(0, 1, *)", 3, 0, 0, 0, 0, 0, 1, 20, 0);
        on.anew();
        on.calls("basin(99999)");
        for (int h = 0; h < 8; h++) {
            on.calls("rain(" + h + ", 20)");
        }
        on.row("flow(0, 0, *)", 180, 360, 540, 720, 900, 900, 900, 900, 720, 540, 360, 180, 0);
    }

    private static void storeAhead() {
        sentence("OUT: FLOW through its RESERVOIR, hour by hour; STORE is 0 ahead of hour 0 "
                + "(and stays so by THROUGH, LAG):");
        on.calls("basin(1)");
        for (int kind = 0; kind <= 4; kind++) {
            on.calls("hold(0, " + kind + ", 9)", "flow(1, 0, 0) = 0", "row(3, 0) = 0", "told(0, 7) = 0");
        }
        on.calls("rain(0, 6)", "rain(7, 6)");
        on.calls("hold(0, 0, 9)", "told(0, 7) = 0", "hold(0, 1, 9)", "told(0, 7) = 0");
        on.calls("hold(0, 2, 3)", "flow(1, 0, 0) = 2", "told(0, 7) = 2");
        on.calls("hold(0, 3, 7)", "flow(1, 0, 0) = 6", "told(0, 7) = 0", "hold(0, 3, 0)", "told(0, 7) = 12");
        on.calls("hold(0, 4, 6)", "flow(1, 0, 0) = 0", "told(0, 7) = 6", "hold(0, 4, 5)", "flow(1, 0, 0) = 1");
        // Asked again, STORE is 0 ahead of hour 0 again.
        on.calls("told(0, 7) = 5", "told(0, 7) = 5", "flow(1, 0, 0) = 1");
    }

    private static void through() {
        sentence("0 THROUGH: OUT is FLOW.");
        on.calls("basin(21)", "rain(0, 4)", "rain(7, 5)");
        on.row("flow(1, 0, *)", 8, 4, 0, 0, 0, 0, 0, 10, 5, 0);
        on.calls("hold(0, 3, 9)", "hold(0, 0, 9)");
        on.row("flow(1, 0, *)", 8, 4, 0, 0, 0, 0, 0, 10, 5, 0);
    }

    private static void lag() {
        sentence("1 LAG: OUT is FLOW of n hours ahead (0, if that is below hour 0).");
        on.calls("basin(12345)", "rain(0, 3)", "rain(7, 2)");
        on.calls("hold(0, 1, 0)");
        on.row("flow(1, 0, *)", 3, 6, 9, 12, 15, 0, 0, 2, 4, 6, 8, 10, 0);
        on.calls("hold(0, 1, 1)");
        on.row("flow(1, 0, *)", 0, 3, 6, 9, 12, 15, 0, 0, 2, 4, 6, 8, 10, 0);
        on.calls("hold(0, 1, 9)");
        on.row("flow(1, 0, *)", 0, 0, 0, 0, 0, 0, 0, 0, 0, 3, 6, 9, 12, 15, 0, 0, 2, 4, 6, 8, 10, 0, 0, 0, 0, 0, 0, 0,
                0, 0, -1);
    }

    private static void pond() {
        sentence("2 POND (n 1 .. 9): STORE is FLOW more; OUT is STORE by n, cut; STORE is that less.");
        on.calls("basin(1)", "rain(0, 8)");
        on.calls("hold(0, 2, 0) = BAD", "hold(0, 2, 10) = BAD", "hold(0, 2, 9) = 0");
        on.row("flow(1, 0, *)", 0, 0, 0);
        on.calls("told(0, 7) = 8", "rain(0, 9)");
        on.row("flow(1, 0, *)", 1, 0, 0);
        on.calls("told(0, 7) = 8", "rain(1, 1)");
        on.row("flow(1, 0, *)", 1, 1, 0);
        on.calls("told(0, 7) = 8", "rain(0, 5)", "rain(1, 0)", "hold(0, 2, 2)");
        on.row("flow(1, 0, *)", 2, 1, 1, 0, 0);
        on.calls("told(0, 7) = 1", "hold(0, 2, 1) = 22");
        on.row("flow(1, 0, *)", 5, 0, 0);
        on.calls("told(0, 7) = 0");
    }

    private static void gate() {
        sentence("3 GATE: STORE is FLOW more; OUT is STORE, n at most; STORE is that less.");
        on.calls("basin(1)", "hold(0, 3, 5)", "rain(0, 4)");
        on.row("flow(1, 0, *)", 4, 0, 0);
        on.calls("rain(0, 5)");
        on.row("flow(1, 0, *)", 5, 0, 0);
        on.calls("told(0, 7) = 0", "rain(0, 6)");
        on.row("flow(1, 0, *)", 5, 1, 0);
        on.calls("rain(1, 5)");
        on.row("flow(1, 0, *)", 5, 5, 1, 0);
        on.calls("told(0, 7) = 0", "hold(0, 3, 0)");
        on.row("flow(1, 0, *)", 0, 0, 0);
        on.calls("row(3, 0) = 0", "told(0, 7) = 11");
    }

    private static void spill() {
        sentence("4 SPILL: STORE is FLOW more; OUT is by how much it is above n (0, if it isn't); STORE is that less.");
        on.calls("basin(1)", "hold(0, 4, 5)", "rain(0, 4)");
        on.row("flow(1, 0, *)", 0, 0);
        on.calls("told(0, 7) = 4", "rain(0, 5)");
        on.row("flow(1, 0, *)", 0, 0);
        on.calls("told(0, 7) = 5", "rain(0, 6)");
        on.row("flow(1, 0, *)", 1, 0);
        on.calls("told(0, 7) = 5", "rain(1, 3)", "rain(7, 1)");
        on.row("flow(1, 0, *)", 1, 3, 0, 0, 0, 0, 0, 1, 0);
        on.calls("told(0, 7) = 5", "hold(0, 4, 0)");
        on.row("flow(1, 0, *)", 6, 3, 0, 0, 0, 0, 0, 1, 0);
        on.calls("told(0, 7) = 0");
    }

    private static void joined() {
        sentence("JOINED: OUT of all BASINS, hour by hour, together.");
        on.calls("rain(0, 20)", "of(2, 0) = 0", "of(2, 29) = 0", "basin(9)", "of(2, 0) = 180", "of(2, 29) = 0");
        on.calls("hold(0, 3, 1)", "of(2, 0) = 1", "of(2, 29) = 1");
        on.calls("basin(8)", "hold(1, 3, 2)", "of(2, 0) = 3", "of(2, 29) = 3");
        on.calls("basin(7)", "hold(2, 3, 3)", "of(2, 0) = 6", "of(2, 29) = 6", "hold(2, 3, 9)", "of(2, 0) = 12");
        on.calls("of(2, 14) = 12", "of(2, 15) = 8", "of(2, 16) = 3", "of(2, 30) = NONE");
    }

    private static void volume() {
        sentence("VOLUME of a row of hours: all of it together.");
        on.calls("row(0, 0) = 0", "row(1, 0) = 0", "row(2, 0) = 0");
        for (int h = 0; h < 12; h++) {
            on.calls("tell(" + h + ", 999)", "rain(" + h + ", 20)");
        }
        on.calls("row(0, 0) = 160", "row(1, 0) = 11988", "row(2, 0) = 0");
        on.calls("basin(9)", "row(3, 0) = 1440", "hold(0, 3, 1)", "row(3, 0) = 30", "told(0, 7) = 1410");
        on.calls("basin(1)", "row(4, 0) = 160", "row(2, 0) = 190");
    }

    private static void peak() {
        sentence("PEAK: its greatest; its hour the first with it.");
        on.row("row(0, *)", 0, 0, 0, -1);
        on.row("row(1, *)", 0, 0, 0, -1);
        on.row("row(2, *)", 0, 0, 0, -1);
        on.calls("rain(7, 4)", "row(0, 1) = 4", "row(0, 2) = 7", "rain(5, 3)", "row(0, 2) = 7");
        on.calls("rain(5, 4)", "row(0, 1) = 4", "row(0, 2) = 5", "rain(0, 4)", "row(0, 2) = 0");
        on.calls("tell(11, 1)", "row(1, 1) = 1", "row(1, 2) = 11", "tell(10, 1)", "row(1, 2) = 10");
        on.calls("basin(1)", "hold(0, 1, 9)", "row(2, 1) = 4", "row(2, 2) = 9", "row(3, 2) = 9");
        on.calls("rain(0, 3)", "row(2, 2) = 14", "rain(5, 3)", "row(2, 2) = 16", "row(3, 1) = 4");
    }

    // ---- TOLD, UNFOLDED, FOUND BACK

    private static void told() {
        sentence("TOLD: of hours 0 .. 11 a FLOW each, told by hand (0 .. 999; 0 at first).");
        on.row("of(1, *)", 0, 0, 0, 0, 0, 0, 0, 0, 0, 0, 0, 0, -1);
        on.calls("tell(0, 999) = 0", "tell(11, 999) = 0", "tell(11, 0) = 999", "tell(10, 1) = 0");
        on.calls("tell(0, 1000) = BAD", "tell(0, -1) = BAD", "tell(12, 1) = NONE", "tell(-1, 1) = NONE");
        on.row("of(1, *)", 999, 0, 0, 0, 0, 0, 0, 0, 0, 0, 1, 0, -1);
    }

    private static void unfoldedWhole() {
        sentence("UNFOLDED by a BASIN: RAIN such that FLOW of hours 0 .. 11 would be TOLD: hour by hour, from 0 to 7: "
                + "what of TOLD is left in that hour by the first of ANSWER: that must be a whole number, 0 .. 20;");
        on.calls("basin(3)", "flaw(0) = -5", "unfold(0, 0) = 0");
        on.calls("tell(0, 1)", "flaw(0) = 0", "tell(0, 2)", "flaw(0) = 0", "tell(0, 3)", "flaw(0) = -5");
        on.calls("unfold(0, 0) = 1", "tell(0, 60)", "flaw(0) = -5", "unfold(0, 0) = 20");
        on.calls("tell(0, 61)", "flaw(0) = 0", "tell(0, 63)", "flaw(0) = 0", "unfold(0, 0) = STATE", "tell(0, 0)");
        on.calls("tell(7, 60)", "flaw(0) = -5", "unfold(0, 7) = 20", "tell(7, 63)", "flaw(0) = 7", "tell(7, 0)");
        on.calls("tell(8, 3)", "flaw(0) = 8");
        on.anew();
        on.calls("basin(33)", "tell(0, 3)", "tell(1, 3)", "flaw(0) = -5", "unfold(0, 0) = 1", "unfold(0, 1) = 0");
        on.calls("tell(1, 0)", "flaw(0) = 1", "unfold(0, 1) = STATE");
    }

    private static void unfoldedTakenAway() {
        sentence("it is RAIN of that hour, and RAIN times ANSWER is taken from what is left of that hour and those "
                + "behind it (it may be below 0 then).");
        on.calls("basin(12)", "tell(0, 4)", "tell(1, 8)", "flaw(0) = -5", "tell(1, 9)", "tell(2, 2)", "flaw(0) = -5");
        on.row("unfold(0, *)", 4, 1, 0, 0, 0, 0, 0, 0, -1);
        // 7 less 8 is below 0: it is no RAIN of hour 1.
        on.calls("tell(1, 7)", "tell(2, 0)", "flaw(0) = 1");
        on.anew();
        on.calls("basin(10002)", "tell(7, 3)", "flaw(0) = 11", "tell(11, 5)", "flaw(0) = 11");
        on.calls("tell(11, 6)", "flaw(0) = -5", "unfold(0, 7) = 3", "tell(11, 7)", "flaw(0) = 11");
    }

    private static void flaw() {
        sentence("FLAW: the first hour of 0 .. 7 in which it can't be so; if all can, the first of 8 .. 11 in which "
                + "something is left (not 0). Without FLAW it is UNFOLDED.");
        on.calls("basin(21)", "flaw(0) = -5");
        on.calls("tell(11, 1)", "flaw(0) = 11", "tell(8, 1)", "flaw(0) = 8", "tell(7, 1)", "flaw(0) = 7");
        on.calls("tell(3, 1)", "flaw(0) = 3", "tell(0, 1)", "flaw(0) = 0", "unfold(0, 0) = STATE", "take(0) = STATE");
        on.calls("tell(0, 2)", "tell(1, 1)", "tell(3, 0)", "flaw(0) = 7", "tell(7, 2)", "flaw(0) = 11");
        // What is left of hour 8 is below 0 then.
        on.calls("tell(8, 0)", "flaw(0) = 8", "tell(8, 1)", "tell(11, 0)", "flaw(0) = -5");
        on.row("unfold(0, *)", 1, 0, 0, 0, 0, 0, 0, 1, -1);
    }

    private static void foundBack() {
        sentence("FOUND BACK: ANSWER such that by RAIN FLOW would be TOLD: a, from place 0 to 4: what is left in hour "
                + "f + a by RAIN of f (f: the first hour of RAIN above 0): whole, 0 .. 9; likewise taken from what is "
                + "left.");
        on.calls("rain(7, 3)", "tell(7, 27)", "tell(11, 27)", "backFlaw() = -6");
        on.row("back(*)", 9, 0, 0, 0, 9, -1);
        on.calls("tell(11, 30)", "backFlaw() = 4", "back(4) = STATE", "tell(11, 28)", "backFlaw() = 4");
        on.calls("tell(7, 30)", "backFlaw() = 0", "tell(7, 28)", "backFlaw() = 0", "tell(7, 0)", "tell(11, 0)");
        on.calls("backFlaw() = -6", "back(0) = 0");
        on.anew();
        on.calls("rain(1, 1)", "rain(2, 2)", "tell(1, 4)", "tell(2, 8)", "backFlaw() = -6");
        on.calls("tell(2, 7)", "backFlaw() = 1", "tell(2, 9)", "tell(3, 2)", "backFlaw() = -6");
        on.row("back(*)", 4, 1, 0, 0, 0, -1);
        // f is hour 0 then: what is taken by RAIN of hour 0 leaves too much in hour 1.
        on.calls("rain(0, 1)", "backFlaw() = 3");
    }

    private static void foundBackFlaw() {
        sentence("Its FLAW: the first place (0 .. 4) at which it can't be so; else 10 and the first hour (0 .. 11) in "
                + "which something is left.");
        on.calls("rain(2, 2)", "backFlaw() = -6", "tell(0, 1)", "backFlaw() = 10", "tell(1, 1)", "backFlaw() = 10");
        on.calls("tell(0, 0)", "backFlaw() = 11", "tell(1, 0)", "tell(2, 1)", "backFlaw() = 0", "tell(6, 1)");
        on.calls("backFlaw() = 0", "tell(2, 2)", "backFlaw() = 4", "tell(6, 2)", "backFlaw() = -6");
        on.calls("tell(11, 1)", "backFlaw() = 21", "tell(7, 2)", "backFlaw() = 17", "tell(0, 3)", "backFlaw() = 10");
        on.calls("back(0) = STATE", "tell(0, 0)", "tell(7, 0)", "tell(11, 0)", "backFlaw() = -6", "back(4) = 1");
        // Taken from what is left up to hour 11; below 0 it is something, too.
        on.anew();
        on.calls("rain(0, 1)", "rain(7, 1)", "tell(4, 2)", "backFlaw() = 21", "tell(11, 2)", "backFlaw() = -6");
    }

    private static void noRain() {
        sentence("(No RAIN: none; -5.)");
        on.calls("backFlaw() = -5", "back(0) = STATE", "tell(0, 5)", "backFlaw() = -5");
        on.calls("rain(0, 1)", "backFlaw() = -6", "back(0) = 5", "rain(0, 0)", "backFlaw() = -5", "back(0) = STATE");
        on.calls("rain(7, 1)", "backFlaw() = 10");
    }

    private static void firstMayBeZero() {
        sentence("(The first of it may be 0 here.)");
        on.calls("rain(0, 2)", "tell(1, 6)", "backFlaw() = -6", "tell(0, 2)", "backFlaw() = -6", "back(0) = 1");
        on.calls("tell(0, 0)");
        on.row("back(*)", 0, 3, 0, 0, 0, -1);
        on.calls("tell(1, 0)", "backFlaw() = -6");
        on.row("back(*)", 0, 0, 0, 0, 0, -1);
        on.calls("basin(0) = BAD");
    }

    // ---- THE TEXT

    private static void clauses() {
        sentence("A set-up is read from THE TEXT (bytes, 100 at most): CLAUSES, 1 to 12, with ; between (none behind "
                + "the twelfth):");
        on.faultAt(0, "");
        on.reads("w1", 1);
        on.reads("w1;w2", 2);
        on.faultAt(3, "w1;");
        on.faultAt(0, ";w1");
        String twelve = "w1;w2;w3;w4;w5;w6;w7;w8;w9;t1;t2;t3";
        on.faultAt(35, twelve + ";");
        on.faultAt(35, twelve + ";w1");
        on.faultAt(35, twelve + "x");
        on.reads(twelve, 12);
        on.calls("of(0, 0) = 9", "of(1, 0) = 3");
        on.anew();
        String ahead = "t100,200,300,400,500,600,700,800,900,100,200,300;t11,22,33,44,55,66,77,88,99,10,20,300;w1,2,3,4,";
        on.feedAll(ahead + "10,6");
        on.calls("count(3) = 100", "feed(49) = FULL", "read() = 3", "count(3) = 0", "of(0, 5) = 6", "of(1, 11) = 300");
        on.anew();
        on.faultAt(100, ahead + "106,");
        on.faultAt(99, ahead + "10,");
    }

    private static void clauseOfBasin() {
        sentence("b and 1 to 5 digits (a BASIN comes with these; it is refused, if the first is 0);");
        on.faultAt(1, "b");
        on.faultAt(1, "b;");
        on.reads("b1", 1);
        on.calls("basins() = 1", "told(0, -1) = 1", "told(0, 0) = 1");
        on.faultAt(6, "b123456");
        on.reads("b98705", 1);
        on.calls("told(1, -1) = 5");
        on.row("told(1, *)", 9, 8, 7, 0, 5, 0, 0, 0);
        on.faultAt(2, "b1,2");
        on.reads("b0", 0);
        on.reads("b09", 0);
        on.reads("b00000", 0);
        on.calls("basins() = 2");
        on.faultAt(6, "b000000");
        on.reads("b90", 1);
        on.calls("basins() = 3", "told(2, -1) = 2", "told(2, 1) = 0");
        on.reads("b1", 0);
        on.calls("basins() = 3");
    }

    private static void clauseOfRain() {
        sentence("w and 1 to 8 NUMBERS with , between (neither , nor a NUMBER behind the eighth; RAIN of hours 0, 1, .. "
                + "is that, of all others 0; if one is above 20, none is);");
        on.faultAt(1, "w");
        on.faultAt(1, "w,1");
        on.reads("w20", 1);
        on.row("of(0, *)", 20, 0, 0, 0, 0, 0, 0, 0);
        on.reads("w1,2,3,4,5,6,7,8", 1);
        on.row("of(0, *)", 1, 2, 3, 4, 5, 6, 7, 8);
        on.faultAt(16, "w1,2,3,4,5,6,7,8,");
        on.faultAt(16, "w1,2,3,4,5,6,7,8,9");
        on.faultAt(3, "w1,");
        on.faultAt(3, "w1,;");
        on.faultAt(3, "w1,,2");
        for (String refused : new String[] {"w21", "w1,21", "w21,1", "w999", "w1,1,1,1,1,1,1,21"}) {
            on.reads(refused, 0);
            on.row("of(0, *)", 1, 2, 3, 4, 5, 6, 7, 8);
        }
        on.reads("w9,20", 1);
        on.row("of(0, *)", 9, 20, 0, 0, 0, 0, 0, 0);
        on.reads("w0", 1);
        on.row("of(0, *)", 0, 0, 0, 0, 0, 0, 0, 0);
    }

    private static void clauseOfReservoir() {
        sentence("k BASIN KIND n (a digit each);");
        on.calls("basin(1)", "basin(1)");
        on.faultAt(1, "k");
        on.faultAt(2, "k0");
        on.faultAt(3, "k01");
        on.faultAt(3, "k01;");
        on.faultAt(4, "k0123");
        on.faultAt(4, "k012,");
        on.faultAt(2, "k0,1,2");
        on.calls("told(0, 5) = 0", "told(0, 6) = 0");
        on.reads("k019", 1);
        on.calls("told(0, 5) = 1", "told(0, 6) = 9", "told(1, 5) = 0");
        on.reads("k140;k021", 2);
        on.calls("told(1, 5) = 4", "told(1, 6) = 0", "told(0, 5) = 2", "told(0, 6) = 1");
        // What the call hold would refuse: no such BASIN, no such KIND, a POND by 0. They are no FAULT.
        on.reads("k210;k910;k050;k090;k020", 0);
        on.calls("told(1, 5) = 4", "told(1, 6) = 0", "told(0, 5) = 2", "told(0, 6) = 1");
    }

    private static void clauseOfTold() {
        sentence("t and 1 to 12 NUMBERS with , between (TOLD likewise, 999).");
        on.faultAt(1, "t");
        on.faultAt(1, "t,1");
        on.reads("t999", 1);
        on.row("of(1, *)", 999, 0, 0, 0, 0, 0, 0, 0, 0, 0, 0, 0);
        on.reads("t1,2,3,4,5,6,7,8,9,10,11,999", 1);
        on.row("of(1, *)", 1, 2, 3, 4, 5, 6, 7, 8, 9, 10, 11, 999);
        on.faultAt(24, "t1,2,3,4,5,6,7,8,9,1,2,3,");
        on.faultAt(24, "t1,2,3,4,5,6,7,8,9,1,2,3,4");
        on.faultAt(4, "t1000");
        on.faultAt(3, "t1,");
        on.row("of(1, *)", 1, 2, 3, 4, 5, 6, 7, 8, 9, 10, 11, 999);
        on.reads("t0,5", 1);
        on.row("of(1, *)", 0, 5, 0, 0, 0, 0, 0, 0, 0, 0, 0, 0);
    }

    private static void numbers() {
        sentence("NUMBERS: 1 to 3 digits.");
        on.faultAt(1, "wx");
        on.reads("w7", 1);
        on.calls("of(0, 0) = 7");
        on.reads("w007,020,00", 1);
        on.row("of(0, *)", 7, 20, 0, 0, 0, 0, 0, 0);
        on.faultAt(4, "w0007");
        on.faultAt(6, "w1,0001");
        on.faultAt(4, "t0999");
        on.reads("t099,999,000", 1);
        on.row("of(1, *)", 99, 999, 0, 0);
        on.faultAt(1, "w-1");
        on.faultAt(1, "w+1");
        // The bytes just ahead of 0 and just behind 9.
        on.faultAt(1, "w/");
        on.faultAt(1, "w:");
        on.faultAt(2, "w1/");
        on.faultAt(2, "w1:");
    }

    private static void nothingBetween() {
        sentence("Nothing else stands between (no blanks).");
        on.faultAt(0, " w1");
        on.faultAt(1, "w 1");
        on.faultAt(2, "w1 ");
        on.faultAt(2, "w1 ,2");
        on.faultAt(3, "w1, 2");
        on.faultAt(2, "w1 ;w2");
        on.faultAt(3, "w1; w2");
        on.faultAt(1, "b 1");
        on.faultAt(2, "b1 2");
        on.faultAt(2, "k0 10");
        on.faultAt(2, "w1\n;w2");
        on.faultAt(2, "w1\0");
        on.faultAt(2, "w1" + (char) 127);
        on.faultAt(2, "w1w2");
        on.faultAt(0, "W1");
        on.faultAt(0, "(w1)");
        on.reads("w1,2;w3", 2);
        on.calls("of(0, 0) = 3", "of(0, 1) = 0");
    }

    private static void fault() {
        sentence("The FAULT OF THE TEXT: the place of the first byte with which none begins so (the end of THE TEXT, "
                + "if it ends too early).");
        on.calls("basin(1)", "rain(0, 5)");
        on.faultAt(0, "x");
        on.faultAt(1, "b");
        on.faultAt(1, "bx");
        on.faultAt(2, "k1");
        on.faultAt(2, "k1x0");
        on.faultAt(3, "b12x");
        on.reads("b12", 1);
        // The first of two; what stands ahead of it isn't done.
        on.faultAt(6, "b3;w1,x;y");
        on.faultAt(3, "b3;");
        on.faultAt(4, "b3;w");
        on.calls("basins() = 2", "of(0, 0) = 5");
        // What would be refused is no FAULT: the place is behind it.
        on.faultAt(19, "b05;k012;w21,3;t1000");
        on.faultAt(7, "w21;b0;");
    }

    private static void done() {
        sentence("Without it they are done, one behind the other; those that would be refused aren't.");
        on.reads("k011;b2;k011;w21;w3;b0;t4;k020;b5;b6;b7;k115", 7);
        on.calls("basins() = 3", "told(0, 0) = 2", "told(0, 5) = 1", "told(0, 6) = 1", "told(1, 5) = 1", "told(1, 6) = 5");
        on.calls("told(2, 0) = 6", "of(0, 0) = 3", "of(1, 0) = 4");
        on.reads("w1;w2", 2);
        on.calls("of(0, 0) = 2");
        on.reads("w2;w21", 1);
        on.calls("of(0, 0) = 2");
        on.reads("b1", 0);
        on.calls("basins() = 3");
    }

    // ---- what is asked: NEAREST, EXCHANGED, SEEN, EVENTS, the BOOK

    private static void askedChangesNothing() {
        sentence("All that follows is asked, and changes nothing.");
        on.rich();
        on.calls("nearest(0, 0) = 2", "nearest(1, 3) = 6048", "exchange(0) = 3", "exchange(1) = 38");
        on.calls("fits(0, 0) = 1", "fits(0, 1) = 4", "fits(7, 0) = 1", "odds(0, 48, 0) = 16", "odds(0, 48, 1) = 21");
        on.calls("mean(0) = 394", "mean(1) = 23", "after(0) = 130", "after(1) = 4", "after(2) = 438", "looked() = -5");
    }

    private static void nearest() {
        sentence("NEAREST by a BASIN: of all RAINS of hours 0, 1, 2 with 0 .. 6 each (0 in all others) that by which "
                + "the squares of (FLOW less TOLD) of hours 0 .. 11, together, are least; of several the first as rows.");
        on.calls("basin(1)", "rain(0, 9)");
        on.row("nearest(0, *)", 0, 0, 0, 0, -1);
        on.calls("tell(0, 6)", "tell(2, 6)");
        on.row("nearest(0, *)", 6, 0, 6, 0, -1);
        on.calls("tell(0, 7)", "tell(1, 1)", "tell(2, 8)");
        on.row("nearest(0, *)", 6, 1, 6, 5, -1);
        on.calls("tell(3, 2)", "tell(11, 3)");
        on.row("nearest(0, *)", 6, 1, 6, 18, -1);
        on.calls("tell(0, 999)", "nearest(0, 0) = 6", "nearest(0, 3) = 986066");
        on.anew();
        // 2 or 4 in place of 3; then 0 1 0, 1 0 0 and 1 1 0 leave 2 each.
        on.calls("basin(2)", "tell(0, 3)");
        on.row("nearest(0, *)", 1, 0, 0, 1, -1);
        on.calls("basin(11)", "tell(0, 0)", "tell(1, 2)");
        on.row("nearest(1, *)", 0, 1, 0, 2, -1);
    }

    private static void exchanged() {
        sentence("EXCHANGED: of all two hours of RAIN (s, then t behind it; by s, then by t) those by whose exchange "
                + "PEAK of JOINED is least, if it is less than now; of several the first (-5: none).");
        on.row("exchange(*)", -5, 0, -1);
        on.calls("rain(0, 5)", "exchange(0) = -5", "exchange(1) = 0", "basin(1)", "exchange(0) = -5", "exchange(1) = 5");
        on.anew();
        on.calls("basin(11)");
        on.reads("w5,0,5", 1);
        on.row("exchange(*)", -5, 5, -1);
        on.reads("w5,5", 1);
        on.row("exchange(*)", 3, 5, -1);
        on.reads("w0,0,0,0,0,0,9,9", 1);
        on.row("exchange(*)", 6, 9, -1);
        // 0 and 3 make 13 of 18; 1 and 4 make 9.
        on.reads("w9,9,4", 1);
        on.row("exchange(*)", 14, 9, -1);
        on.reads("w3,9,3,9,3,9,9,3", 1);
        on.row("exchange(*)", 67, 12, -1);
        on.reads("w9,3,9,3,9,9,3,3", 1);
        on.row("exchange(*)", 47, 12, -1);
        // Behind a GATE there is no less than now.
        on.calls("hold(0, 3, 2)");
        on.row("exchange(*)", -5, 2, -1);
    }

    private static void seen() {
        sentence("SEEN told by hand: an hour (0 .. 29), a number (5 rows at most).");
        on.calls("count(0) = 0", "see(0, 0) = 1", "see(29, 0) = 2", "see(30, 0) = NONE", "see(-2, 0) = NONE");
        on.calls("see(0, 0) = 3", "see(1, 0) = 4", "fits(0, 0) = 21", "see(28, 0) = 5", "fits(0, 0) = 21");
        on.calls("see(2, 1) = FULL", "see(28, 0) = FULL", "count(0) = 5", "fits(0, 0) = 21");
        on.calls("see(-1, 0) = 0", "count(0) = 0", "see(29, 1) = 1", "fits(0, 0) = 0");
    }

    private static void fits() {
        sentence("FITS of an hour of RAIN: how many RAINS 0 .. 20 there are by which, were that its own, JOINED were "
                + "all of SEEN in their hours; the least (-5: none).");
        on.calls("fits(0, 0) = 21", "fits(0, 1) = 0", "basin(1)", "fits(7, 0) = 21", "fits(7, 1) = 0");
        on.calls("see(0, 0)", "fits(0, 0) = 1", "fits(0, 1) = 0", "fits(7, 0) = 21");
        on.calls("rain(0, 3)", "fits(0, 0) = 1", "fits(0, 1) = 0", "fits(7, 0) = 0", "fits(7, 1) = -5");
        on.calls("see(-1, 0)", "see(0, 20)", "fits(0, 0) = 1", "fits(0, 1) = 20");
        on.calls("see(-1, 0)", "see(0, 21)", "fits(0, 0) = 0", "fits(0, 1) = -5");
        // Of a POND by 4, OUT of hour 0 is 2 by 8, 9, 10, 11; in hour 1 by 8 (6 left) and 9 it is 1, as by the others.
        on.calls("hold(0, 2, 4)", "see(-1, 0)", "see(0, 2)", "fits(0, 0) = 4", "fits(0, 1) = 8");
        on.calls("see(1, 2)", "fits(0, 0) = 2", "fits(0, 1) = 10", "see(1, 1)", "fits(0, 0) = 0", "fits(0, 1) = -5");
        on.anew();
        on.calls("basin(1)", "hold(0, 4, 9)", "see(0, 0)", "fits(0, 0) = 10", "fits(0, 1) = 0");
        on.calls("see(1, 1)", "rain(1, 1)", "fits(0, 0) = 1", "fits(0, 1) = 9", "fits(1, 1) = 10");
    }

    private static void odds() {
        sentence("ODDS of an hour of RAIN and a limit: were its RAIN 0, 1, .. 20, each alike likely: how likely PEAK of "
                + "JOINED is above the limit: a fraction in lowest terms.");
        on.row("odds(0, 0, *)", 0, 1, Long.MIN_VALUE);
        on.calls("basin(1)");
        on.row("odds(0, 0, *)", 20, 21);
        on.row("odds(0, 19, *)", 1, 21);
        on.row("odds(0, 20, *)", 0, 1);
        on.row("odds(7, 13, *)", 1, 3);
        on.row("odds(7, 14, *)", 2, 7);
        on.calls("rain(3, 9)");
        on.row("odds(0, 8, *)", 1, 1);
        on.row("odds(0, 9, *)", 11, 21);
        on.row("odds(3, 8, *)", 4, 7);
        on.calls("hold(0, 3, 4)");
        on.row("odds(3, 3, *)", 17, 21);
        on.row("odds(3, 4, *)", 0, 1);
    }

    private static void mean() {
        sentence("MEAN: VOLUME of JOINED by how many of its hours are above 0: a fraction in lowest terms (NO: none).");
        on.calls("mean(0) = NO", "mean(1) = NO", "basin(12)", "mean(0) = NO", "mean(1) = NO");
        on.calls("rain(7, 1)", "mean(0) = 3", "mean(1) = 2", "rain(0, 1)", "mean(0) = 3", "mean(1) = 2");
        on.calls("rain(7, 2)", "mean(0) = 9", "mean(1) = 4", "rain(0, 2)", "mean(0) = 3", "mean(1) = 1");
        on.calls("rain(7, 0)", "hold(0, 4, 6)", "mean(0) = NO", "mean(1) = NO");
        on.calls("hold(0, 4, 5)", "mean(0) = 1", "mean(1) = 1");
        // 18 hours of 1, one of them with 1 more.
        on.calls("basin(9)", "hold(1, 3, 1)", "mean(0) = 19", "mean(1) = 18");
        on.anew();
        on.calls("basin(9)", "rain(0, 20)", "hold(0, 3, 1)", "mean(0) = 1", "mean(1) = 1", "row(2, 0) = 30");
    }

    private static void eventTwice() {
        sentence("EVENTS told by hand: what happens (0 RAIN of hour n is twice as much, 20 at most;");
        on.calls("basin(1)", "event(0, 0) = 1", "after(0) = 0", "after(2) = 0");
        on.calls("rain(0, 1)", "after(2) = 2", "rain(0, 9)", "after(2) = 18", "rain(0, 10)", "after(2) = 20");
        on.calls("rain(0, 11)", "after(2) = 20", "rain(0, 20)", "after(2) = 20", "rain(7, 6)", "after(2) = 26");
        on.calls("event(0, 7) = 2", "after(2) = 32", "event(0, 7) = 3", "after(2) = 40", "of(0, 7) = 6");
    }

    private static void eventDry() {
        sentence("1 it is 0;");
        on.calls("basin(1)", "rain(0, 20)", "rain(7, 3)", "event(1, 1) = 1", "after(2) = 23");
        on.calls("event(1, 0) = 2", "after(0) = 3", "after(1) = 7", "after(2) = 3", "event(0, 0) = 3", "after(2) = 3");
        on.calls("event(1, 7) = 4", "after(0) = 0", "after(1) = 0", "after(2) = 0", "of(0, 0) = 20", "of(0, 7) = 3");
    }

    private static void eventThrough() {
        sentence("2 the RESERVOIR of BASIN n is THROUGH;");
        on.calls("rain(0, 5)", "basin(1)", "basin(2)", "basin(3)", "hold(0, 3, 0)", "hold(1, 3, 0)", "hold(2, 3, 0)");
        on.calls("after(2) = 0", "event(2, 0) = 1", "after(2) = 5", "event(2, 2) = 2", "after(2) = 20");
        on.calls("event(2, 1) = 3", "after(2) = 30", "event(2, 1) = 4", "after(2) = 30", "row(2, 0) = 0");
        on.calls("told(0, 5) = 3", "event(2, 3) = NONE", "event(2, -1) = NONE");
    }

    private static void eventLater() {
        sentence("3 all RAIN comes n hours later (0 .. 7), what would come behind hour 7 doesn't;");
        on.calls("basin(1)", "rain(0, 4)", "rain(1, 3)", "rain(7, 9)", "event(3, 0) = 1", "after(0) = 9", "after(1) = 7");
        on.calls("after(2) = 16", "event(3, 1) = 2", "after(0) = 4", "after(1) = 1", "after(2) = 7");
        on.calls("event(3, 5) = 3", "after(0) = 4", "after(1) = 6", "after(2) = 7");
        on.calls("event(3, 1) = 4", "after(1) = 7", "after(2) = 4", "event(3, 1) = 5", "after(1) = 0", "after(2) = 0");
        on.calls("event(-1, 0) = 0", "event(3, 7) = 1", "after(0) = 4", "after(1) = 7", "after(2) = 4");
        on.calls("event(3, 8) = BAD", "event(3, -1) = BAD", "of(0, 7) = 9", "of(0, 0) = 4");
    }

    private static void after() {
        sentence("AFTER, behind all of it: PEAK of JOINED; its hour; VOLUME of JOINED.");
        on.row("after(*)", 0, 0, 0, -1);
        on.calls("basin(11)", "rain(0, 3)", "rain(5, 3)");
        on.row("after(*)", 3, 0, 12, -1);
        // One behind the other: hour 2 is twice as much when RAIN has come there.
        on.calls("event(3, 2) = 1", "event(0, 2) = 2");
        on.row("after(*)", 6, 2, 18, -1);
        on.calls("event(-1, 0) = 0", "event(0, 2) = 1", "event(3, 2) = 2");
        on.row("after(*)", 3, 2, 12, -1);
        on.row("row(2, *)", 12, 3, 0, -1);
    }

    private static void eventRows() {
        sentence("8 rows at most): AFTER");
        on.calls("basin(1)", "rain(0, 1)", "rain(1, 1)", "count(1) = 0");
        for (int k = 1; k <= 7; k++) {
            on.calls("event(3, 0) = " + k, "count(1) = " + k);
        }
        on.calls("after(2) = 2", "event(0, 0) = 8", "after(2) = 3", "count(1) = 8");
        on.calls("event(0, 0) = FULL", "event(1, 1) = FULL", "event(2, 0) = FULL", "event(3, 1) = FULL");
        on.calls("count(1) = 8", "after(2) = 3", "event(-1, 0) = 0", "count(1) = 0", "after(2) = 2", "event(1, 0) = 1");
    }

    private static void book() {
        sentence("A BOOK told by hand: hours, numbers (8 rows at most):");
        on.calls("count(2) = 0");
        for (int k = 1; k <= 7; k++) {
            on.calls("book(" + k + ", 0) = " + k, "count(2) = " + k);
        }
        on.calls("looked() = -5", "book(29, 1) = 8", "looked() = 7", "book(0, 1) = FULL", "book(0, 0) = FULL");
        on.calls("looked() = 7", "count(2) = 8", "book(-1, 0) = 0", "count(2) = 0", "looked() = -5", "book(0, 1) = 1");
    }

    private static void looked() {
        sentence("LOOKED at: the number (from 0) of the first of these rows in whose hour JOINED is otherwise "
                + "(-5: none).");
        on.calls("looked() = -5", "book(0, 1)", "looked() = 0", "basin(1)", "rain(0, 1)", "looked() = -5");
        on.calls("book(29, 0)", "looked() = -5", "book(29, 1)", "looked() = 2", "book(0, 2)", "looked() = 2");
        on.calls("rain(0, 2)", "looked() = 0", "rain(0, 0)", "looked() = 0");
        on.calls("book(-1, 0)", "rain(0, 9)", "hold(0, 1, 1)", "book(0, 0)", "book(1, 9)", "looked() = -5");
        on.calls("book(1, 8)", "looked() = 2");
    }

    private static void image() {
        sentence("THE IMAGE: RAIN, BASINS, TOLD, SEEN, EVENTS, the BOOK.");
        on.calls("undo() = STATE", "image() = 0", "undo() = 0");
        on.rich();
        on.calls("image() = 2", "undo() = 2");
        on.undoes("rain(7, 2)", "rain(0, 0)", "basin(9)", "hold(0, 0, 0)", "hold(1, 4, 9)",
                "tell(11, 9)", "see(9, 9)", "event(1, 0)", "book(9, 9)");
        on.undoes("see(-1, 0)", "see(1, 1)", "see(2, 2)", "see(3, 3)", "event(-1, 0)", "event(1, 1)",
                "event(1, 2)", "event(3, 7)", "book(-1, 0)", "book(1, 1)", "book(2, 2)", "take(1)");
        // THE TEXT and the TAPES are no part of it.
        on.calls("count(3) = 6", "feed(59) = 7", "item(1, 0, 9) = 1", "tape(0, -1, 0) = 1", "undo() = 2", "count(3) = 7");
        on.calls("peek(1, 0) = 9", "peek(0, 0) = NO");
    }

    private static void no() {
        sentence("The constants: `NO = Long.MIN_VALUE`: There is no such number.");
        on.is("NO", StormRunoff.NO, -9223372036854775807L - 1);
        on.calls("odds(0, 0, 2) = NO", "mean(0) = NO", "peek(0, 0) = NO", "odds(0, 0, 0) = 0");
        on.calls("tape(0, 3, 1) = 1", "item(0, 0, -9223372036854775808) = 1", "peek(0, 0) = NO");
    }

    // ---- TAPES

    private static void tapes() {
        sentence("TAPES 0 .. 5 hold nothing (at first), or a row of 0 bytes, 1 shorts, 2 ints, 3 longs, 4 booleans "
                + "(items 0, 1).");
        for (int t = 0; t <= 5; t++) {
            on.calls("peek(" + t + ", 0) = NO", "item(" + t + ", 0, 1) = NOTHING");
        }
        on.calls("item(6, 0, 1) = NONE", "item(-1, 0, 1) = NONE", "tape(6, 0, 1) = NONE", "tape(-1, 0, 1) = NONE");
        for (int sort = 0; sort <= 4; sort++) {
            on.calls("tape(" + sort + ", " + sort + ", 1) = 1", "peek(" + sort + ", 0) = 0");
        }
        on.calls("tape(5, 5, 1) = BAD", "tape(5, -2, 1) = BAD", "item(5, 0, 1) = NOTHING");
        on.calls("tape(5, 4, 2) = 1", "peek(5, 1) = 0", "peek(5, 2) = NO");
        edges(0, "127", "127", "128", "-128", "255", "-1", "256", "0", "-128", "-128", "-129", "127");
        edges(1, "32767", "32767", "32768", "-32768", "65535", "-1", "65536", "0", "-32768", "-32768", "-32769", "32767");
        edges(2, "2147483647", "2147483647", "2147483648", "-2147483648", "4294967295", "-1", "4294967296", "0",
                "-2147483648", "-2147483648", "-2147483649", "2147483647");
        edges(3, "9223372036854775807", "9223372036854775807", "-9223372036854775807", "-9223372036854775807", "-1", "-1");
        edges(4, "1", "1", "0", "0", "2", "1", "-1", "1", "256", "1", "65536", "1", "4294967296", "1",
                "-9223372036854775808", "1", "0", "0");
    }

    private static void edges(int sort, String... putAndDue) {
        for (int k = 0; k < putAndDue.length; k += 2) {
            on.calls("item(" + sort + ", 0, " + putAndDue[k] + ") = 1", "peek(" + sort + ", 0) = " + putAndDue[k + 1]);
        }
    }

    private static void judged() {
        sentence("OUT of a BASIN told by a row of shorts, from a place on, hour by hour (30), is JUDGED: the first hour "
                + "that is otherwise; -5: none;");
        on.calls("basin(3)", "tape(0, 1, 32)", "judge(0, 0, 0) = -5", "judge(0, 0, 2) = -5", "rain(0, 4)", "rain(7, 1)");
        on.calls("judge(0, 0, 0) = 0", "item(0, 0, 12)", "judge(0, 0, 0) = 7", "item(0, 7, 3)", "judge(0, 0, 0) = -5");
        on.calls("item(0, 30, 1)", "judge(0, 0, 0) = -5", "item(0, 29, 1)", "judge(0, 0, 0) = 29", "item(0, 29, 0)");
        on.calls("item(0, 30, 0)", "item(0, 6, -3)", "judge(0, 0, 0) = 6", "item(0, 6, 0)", "judge(0, 0, 1) = 0");
        on.calls("item(0, 0, 99)", "item(0, 1, 12)", "item(0, 7, 0)", "item(0, 8, 3)", "judge(0, 0, 1) = -5");
        on.calls("hold(0, 3, 4)", "judge(0, 0, 1) = 0", "hold(0, 1, 1)", "item(0, 0, 0)", "judge(0, 0, 0) = -5");
    }

    private static void judgedShort() {
        sentence("100 and how many were looked at, if the row ends ahead of that (or the place is below 0, or the TAPE "
                + "holds nothing).");
        on.calls("basin(3)", "judge(0, 0, 0) = 100", "judge(0, 0, -1) = 100", "judge(0, 0, 5) = 100");
        on.calls("tape(0, 1, 0)", "judge(0, 0, 0) = 100", "tape(0, 1, 1)", "judge(0, 0, 0) = 101", "tape(0, 1, 29)");
        on.calls("judge(0, 0, 0) = 129", "judge(0, 0, 28) = 101", "judge(0, 0, 29) = 100", "judge(0, 0, 30) = 100");
        on.calls("judge(0, 0, -1) = 100", "judge(0, 0, -2147483648) = 100", "judge(0, 0, 2147483647) = 100");
        on.calls("judge(0, 0, 2147483640) = 100", "tape(0, 1, 30)", "judge(0, 0, 0) = -5", "judge(0, 0, 1) = 129");
        // An hour that is otherwise ahead of the end is what is answered.
        on.calls("item(0, 29, 1)", "judge(0, 0, 0) = 29", "judge(0, 0, 1) = 28", "judge(0, 0, 29) = 0", "rain(0, 1)");
        on.calls("item(0, 29, 3)", "judge(0, 0, 29) = 101", "judge(0, 0, 28) = 0", "tape(0, -1, 0)", "judge(0, 0, 0) = 100");
        on.calls("tape(0, 1, 60)", "item(0, 30, 3)", "judge(0, 0, 30) = -5", "item(0, 31, 3)", "judge(0, 0, 31) = 129");
    }

    private static void hostsRefusals() {
        sentence("The host's refusals: NOTHING (-11): nothing is there; CAST (-12): another sort; PLACE (-13): no such "
                + "place; SIZE (-14): a size below 0.");
        on.rich();
        on.calls("item(5, 0, 1) = -11", "item(4, 0, 1) = 1", "shift(5, 0, 5, 0, 0) = -11", "shift(4, 0, 4, 0, 0) = 0");
        on.calls("judge(0, 0, 0) = -12", "judge(0, 1, 0) = 0", "shift(0, 0, 1, 0, 1) = -12", "shift(1, 0, 1, 1, 1) = 1");
        on.calls("item(1, 4, 1) = -13", "item(1, -1, 1) = -13", "item(1, 3, 1) = 1", "shift(1, 0, 1, 0, 5) = -13");
        on.calls("tape(1, 1, -1) = -14", "tape(1, 1, 0) = 1");
    }

    // ---- answers

    private static void answers() {
        sentence("Answers: NONE (-1) no such number; BAD (-2) a number is not as told; STATE (-3) as told; FULL (-4);");
        on.is("NONE", StormRunoff.NONE, -1);
        on.is("BAD", StormRunoff.BAD, -2);
        on.is("STATE", StormRunoff.STATE, -3);
        on.is("FULL", StormRunoff.FULL, -4);
        on.rich();
        on.calls("rain(8, 0) = -1", "rain(7, 0) = 0", "rain(7, 21) = -2", "rain(7, 20) = 0");
        on.calls("unfold(1, 0) = 4", "unfold(0, 0) = -3", "basin(1) = 2", "basin(1) = -4");
    }

    private static void firstNamed() {
        sentence("the first that a call's words name.");
        on.rich();
        on.calls("rain(8, 21) = NONE", "rain(7, 21) = BAD", "tell(12, 1000) = NONE", "tell(11, 1000) = BAD");
        on.calls("hold(2, 5, 10) = NONE", "hold(1, 5, 10) = BAD", "take(2) = NONE", "take(0) = STATE");
        on.calls("unfold(2, 0) = NONE", "unfold(0, 8) = NONE", "unfold(0, 7) = STATE", "tell(0, 1)");
        on.calls("back(5) = NONE", "back(-1) = NONE", "back(4) = STATE", "basin(1)", "basin(0) = BAD", "basin(1) = FULL");
        on.rich();
        on.calls("see(9, 0)", "see(9, 0)", "see(30, 10000) = NONE", "see(30, 0) = NONE", "see(9, 10000) = BAD");
        on.calls("see(9, 9999) = FULL", "event(1, 7)", "event(1, 7)", "event(1, 7)", "event(1, 7)", "event(1, 7)");
        on.calls("event(4, 9) = NONE", "event(0, 8) = NONE", "event(2, 2) = NONE", "event(3, 8) = BAD", "event(3, 7) = FULL");
        on.rich();
        for (int k = 3; k <= 8; k++) {
            on.calls("book(" + k + ", 0) = " + k);
        }
        on.calls("book(30, 10000) = NONE", "book(30, 0) = NONE", "book(9, 10000) = BAD", "book(9, 9999) = FULL");
        on.feedAll("w1".repeat(47));
        on.calls("count(3) = 100", "feed(128) = BAD", "feed(127) = FULL");
        on.rich();
        on.calls("judge(2, 0, -1) = NONE", "judge(1, 6, -1) = NONE", "judge(1, 0, -1) = CAST", "judge(1, 1, -1) = 100");
        on.calls("tape(6, 5, 61) = NONE", "tape(6, 5, -1) = NONE", "tape(5, 5, 61) = BAD", "tape(5, 5, -1) = BAD");
        on.calls("tape(5, 4, -1) = SIZE", "item(6, -1, 0) = NONE", "item(5, -1, 0) = NOTHING", "item(4, -1, 0) = PLACE");
        on.calls("shift(6, -1, 5, -1, -1) = NONE", "shift(5, -1, 6, -1, -1) = NONE", "shift(5, -1, 4, -1, -1) = NOTHING");
        on.calls("shift(4, -1, 5, -1, -1) = NOTHING", "shift(4, -1, 3, -1, -1) = CAST", "shift(4, -1, 4, 0, 0) = PLACE");
    }

    private static void refusedChangesNothing() {
        sentence("What is answered so changes nothing; what is asked changes nothing.");
        on.rich();
        on.calls("rain(8, 1) = NONE", "rain(0, 21) = BAD", "basin(0) = BAD", "hold(2, 0, 0) = NONE", "hold(0, 5, 0) = BAD");
        on.calls("tell(12, 1) = NONE", "tell(0, 1000) = BAD", "take(2) = NONE", "take(0) = STATE", "feed(128) = BAD");
        on.calls("see(30, 1) = NONE", "see(0, 10000) = BAD", "event(0, 8) = NONE", "event(3, 8) = BAD");
        on.calls("book(30, 1) = NONE", "book(0, 10000) = BAD", "tape(6, 0, 1) = NONE", "tape(0, 5, 1) = BAD");
        on.calls("tape(0, 0, -1) = SIZE", "item(6, 0, 1) = NONE", "item(5, 0, 1) = NOTHING", "item(0, 4, 1) = PLACE");
        on.calls("shift(6, 0, 0, 0, 1) = NONE", "shift(5, 0, 0, 0, 1) = NOTHING", "shift(1, 0, 0, 0, 1) = CAST");
        on.calls("shift(1, 0, 1, 1, 4) = PLACE", "basin(1) = 2", "basin(1) = FULL");
        on.rich();
        on.calls("of(0, 3) = 20", "told(1, 7) = 2", "flow(0, 0, 0) = 20", "flow(1, 1, 0) = 2", "row(2, 1) = 48");
        on.calls("basins() = 2", "flaw(0) = 0", "flaw(1) = -5", "unfold(1, 3) = 20", "backFlaw() = -6", "back(1) = 3");
        on.calls("count(0) = 3", "count(1) = 3", "count(2) = 2", "count(3) = 6", "peek(1, 3) = 7", "judge(0, 1, 0) = 0");
    }
}
