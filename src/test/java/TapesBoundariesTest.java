/** For each sentence of Promises 28 to 35 that names a boundary case a test of its own. */
public final class TapesBoundariesTest {
    private static final Boundaries on = new Boundaries("TapesBoundariesTest");

    public static void main(String[] args) {
        judge();
        judgeNone();
        judgeCast();
        image();
        undo();
        undoState();
        count();
        countBad();
        tape();
        tapeNone();
        tapeBad();
        tapeSize();
        item();
        itemNone();
        itemNothing();
        itemPlace();
        peek();
        peekNo();
        shift();
        shiftSame();
        shiftNone();
        shiftNothing();
        shiftCast();
        shiftPlace();
        String[] promises = new String[8];
        for (int k = 0; k < promises.length; k++) {
            promises[k] = "Promise " + (k + 28);
        }
        on.end(promises);
    }

    // ---- promises 28 to 31

    private static void judge() {
        on.sentence("Promise 28", "JUDGED, a BASIN from place i of a TAPE on.");
        on.rich();
        on.calls("tape(0, 1, 60)", "judge(0, 0, 0) = 0", "judge(0, 0, 59) = 0", "judge(0, 0, 60) = 100", "judge(0, 0, -1) = 100");
        for (int h = 0; h < 23; h++) {
            on.calls("item(0, " + (7 + h) + ", " + (h < 22 ? 8 : 4) + ")");
        }
        on.calls("judge(0, 0, 7) = -5", "judge(0, 0, 6) = 0", "judge(0, 0, 8) = 21", "judge(0, 0, 30) = 0", "judge(1, 0, 7) = 0");
        on.calls("hold(0, 3, 9)", "judge(0, 0, 7) = 0", "hold(0, 3, 8)", "item(0, 36, 1)", "judge(0, 0, 7) = 29");
        on.calls("item(0, 36, 0)", "judge(0, 0, 7) = -5", "item(0, 37, 1)", "judge(0, 0, 7) = -5");
        // The row ends ahead of hour 29.
        on.calls("tape(1, 1, 36)", "shift(0, 0, 1, 0, 36)", "judge(0, 1, 7) = 129", "tape(1, 1, 37)", "shift(0, 0, 1, 0, 37)");
        on.calls("judge(0, 1, 7) = -5", "tape(1, 1, 0)", "judge(0, 1, 0) = 100", "tape(1, -1, 0)", "judge(0, 1, 0) = 100");
    }

    private static void judgeNone() {
        on.sentence("Promise 28", "NONE: basin, tape;");
        on.outside("judge(*, 0, 0) = NONE", 0, -1);
        on.rich();
        on.outside("judge(*, 1, 0) = NONE", 0, 1);
        on.outside("judge(0, *, 0) = NONE", 0, 5);
        on.calls("judge(0, 1, 0) = 0", "judge(1, 1, 0) = 0", "judge(0, 5, 0) = 100", "basin(1)", "judge(2, 1, 0) = 0");
        on.calls("judge(3, 1, 0) = NONE");
    }

    private static void judgeCast() {
        on.sentence("Promise 28", "CAST: it is no row of shorts.");
        on.rich();
        on.calls("judge(0, 0, 0) = CAST", "judge(0, 1, 0) = 0", "judge(0, 2, 0) = CAST", "judge(0, 3, 0) = CAST");
        on.calls("judge(0, 4, 0) = CAST", "judge(0, 5, 0) = 100", "judge(0, 0, 4) = CAST", "judge(0, 1, 4) = 100");
        // However few items there are.
        on.calls("tape(5, 0, 0)", "judge(0, 5, 0) = CAST", "tape(5, 1, 0)", "judge(0, 5, 0) = 100", "tape(5, 2, 0)");
        on.calls("judge(0, 5, 0) = CAST", "tape(5, -1, 0)", "judge(0, 5, 0) = 100");
    }

    private static void image() {
        on.sentence("Promise 29", "THE IMAGE is taken: how many BASINS there are.");
        on.calls("image() = 0", "basin(1)", "image() = 1", "basin(1)", "image() = 2", "basin(1)", "image() = 3");
        on.calls("basin(1) = FULL", "image() = 3");
        on.rich();
        // Taken anew: the one ahead of it is gone.
        on.calls("image() = 2", "rain(0, 9)", "undo() = 2", "of(0, 0) = 4", "rain(0, 9)", "image() = 2", "rain(0, 1)");
        on.calls("undo() = 2", "of(0, 0) = 9", "undo() = 2", "of(0, 0) = 9");
    }

    private static void undo() {
        on.sentence("Promise 30", "All is as THE IMAGE: how many BASINS.");
        on.calls("image() = 0", "basin(1)", "basin(2)", "undo() = 0", "basins() = 0", "basin(3) = 0", "told(0, 0) = 3");
        on.calls("told(0, 1) = 0", "image() = 1", "undo() = 1", "basins() = 1");
        // A BASIN that comes in place of one that is gone has nothing of it.
        on.calls("basin(98765) = 1", "hold(1, 3, 9) = 0", "undo() = 1", "told(1, -1) = NONE", "basin(12) = 1");
        on.calls("told(1, -1) = 2", "hold(1, 0, 0) = 0");
        on.row("told(1, *)", 1, 2, 0, 0, 0, 0, 0, 0, -1);
        on.rich();
        on.calls("undo() = 1", "of(0, 0) = 3", "of(0, 3) = 0", "of(1, 0) = 0", "of(1, 1) = 2", "told(0, 0) = 5");
        on.calls("told(0, 5) = 0", "told(0, 6) = 0", "told(1, 0) = NONE", "count(0) = 1", "count(1) = 1", "count(2) = 1");
        on.calls("fits(0, 0) = 1", "fits(0, 1) = 3", "after(0) = 0", "looked() = -5", "count(3) = 6");
        on.rich();
        on.calls("image() = 2");
        on.undoes("hold(0, 0, 0)");
        on.undoes("rain(7, 1)");
        on.undoes("tell(11, 1)");
        on.undoes("basin(1)");
        on.undoes("see(9, 9)");
        on.undoes("see(-1, 0)");
        on.undoes("event(1, 0)");
        on.undoes("event(-1, 0)", "event(1, 1)", "event(1, 2)", "event(1, 3)");
        on.undoes("book(9, 9)");
        on.undoes("book(-1, 0)", "book(9, 9)", "book(8, 8)");
        on.undoes("tell(8, 8)", "tell(9, 1)", "tell(7, 17)", "take(1)");
    }

    private static void undoState() {
        on.sentence("Promise 30", "STATE: there is none.");
        on.calls("undo() = STATE", "basin(1)", "rain(0, 5)", "undo() = STATE", "basins() = 1", "of(0, 0) = 5");
        on.calls("image() = 1", "undo() = 1", "undo() = 1");
    }

    private static void count() {
        on.sentence("Promise 31", "How many: 0 SEEN, 1 EVENTS, 2 of the BOOK, 3 bytes of THE TEXT.");
        on.row("count(*)", 0, 0, 0, 0, -2);
        on.calls("see(0, 0)");
        on.row("count(*)", 1, 0, 0, 0, -2);
        on.calls("event(0, 0)", "event(0, 0)");
        on.row("count(*)", 1, 2, 0, 0, -2);
        on.calls("book(0, 0)", "book(0, 0)", "book(0, 0)");
        on.row("count(*)", 1, 2, 3, 0, -2);
        on.feedAll("abcd");
        on.row("count(*)", 1, 2, 3, 4, -2);
        // The most of each.
        for (int k = 0; k < 8; k++) {
            on.calls("see(0, 0)", "event(0, 0)", "book(0, 0)");
        }
        on.feedAll("a".repeat(100));
        on.row("count(*)", 5, 8, 8, 100, -2);
        on.calls("see(-1, 0)", "event(-1, 0)", "book(-1, 0)", "read()");
        on.row("count(*)", 0, 0, 0, 0, -2);
    }

    private static void countBad() {
        on.sentence("Promise 31", "BAD.");
        on.rich();
        on.outside("count(*) = BAD", 0, 3);
        on.calls("count(0) = 3", "count(3) = 6");
    }

    // ---- promises 32 to 34

    private static void tape() {
        on.sentence("Promise 32", "A TAPE becomes a row of n (0 .. 60) of a sort, all 0, or holds nothing (sort -1: n does "
                + "not matter): 1.");
        for (int sort = 0; sort <= 4; sort++) {
            on.calls("tape(0, " + sort + ", 60) = 1", "item(0, 59, 1) = 1", "peek(0, 59) = 1", "item(0, 60, 1) = PLACE");
            on.calls("peek(0, 60) = NO", "tape(0, " + sort + ", 60) = 1", "peek(0, 59) = 0", "item(0, 0, 1)");
            on.calls("tape(0, " + sort + ", 1) = 1", "peek(0, 0) = 0", "peek(0, 1) = NO", "tape(0, " + sort + ", 0) = 1");
            on.calls("peek(0, 0) = NO", "item(0, 0, 1) = PLACE");
        }
        on.calls("tape(5, 3, 2) = 1", "item(5, 1, 7)", "tape(5, -1, 0) = 1", "item(5, 1, 7) = NOTHING", "peek(5, 1) = NO");
        for (String n : new String[] {"61", "-1", "2147483647", "-2147483648", "60"}) {
            on.calls("tape(5, 3, 2) = 1", "tape(5, -1, " + n + ") = 1", "item(5, 0, 1) = NOTHING");
        }
        on.calls("tape(5, 3, 2) = 1", "peek(5, 1) = 0");
    }

    private static void tapeNone() {
        on.sentence("Promise 32", "NONE: tape;");
        on.rich();
        on.outside("tape(*, 0, 1) = NONE", 0, 5);
        on.outside("tape(*, -1, 0) = NONE", 0, 5);
        on.calls("tape(0, 0, 1) = 1", "tape(5, 0, 1) = 1", "peek(5, 0) = 0", "peek(0, 1) = NO");
    }

    private static void tapeBad() {
        on.sentence("Promise 32", "BAD: sort, n above 60;");
        on.rich();
        on.outside("tape(3, *, 1) = BAD", -1, 4);
        for (int sort = 0; sort <= 4; sort++) {
            on.calls("tape(3, " + sort + ", 61) = BAD", "tape(3, " + sort + ", 2147483647) = BAD");
        }
        on.calls("peek(3, 3) = 77", "tape(3, 3, 60) = 1", "peek(3, 59) = 0", "peek(3, 3) = 0");
    }

    private static void tapeSize() {
        on.sentence("Promise 32", "SIZE.");
        on.rich();
        for (int sort = 0; sort <= 4; sort++) {
            on.calls("tape(3, " + sort + ", -1) = SIZE", "tape(3, " + sort + ", -2147483648) = SIZE");
            on.calls("tape(5, " + sort + ", -61) = SIZE", "item(5, 0, 1) = NOTHING");
        }
        on.calls("peek(3, 3) = 77", "tape(3, 3, 0) = 1", "peek(3, 3) = NO", "item(3, 0, 1) = PLACE");
    }

    private static void item() {
        on.sentence("Promise 33", "Item i of a TAPE becomes v (its lowest bits, as many as an item has, with their sign; "
                + "booleans: whether v is not 0): 1.");
        for (int sort = 0; sort <= 4; sort++) {
            on.calls("tape(" + sort + ", " + sort + ", 3)");
        }
        becomes(0, "127 -128 0 -1 1 -1", "127 128 256 255 257 -1");
        becomes(0, "127 -128 0 -1", "-129 -128 9223372036854775552 9223372036854775807");
        becomes(1, "32767 -32768 0 -1 128 -129", "32767 32768 65536 65535 128 -129");
        becomes(1, "32767 -32768 0 -1", "-32769 -32768 9223372036854710272 9223372036854775807");
        becomes(2, "2147483647 -2147483648 0 -1", "2147483647 2147483648 4294967296 4294967295");
        becomes(2, "2147483647 -2147483648 65536 0 -1",
                "-2147483649 -2147483648 65536 -9223372036854775808 9223372036854775807");
        becomes(3, "9223372036854775807 -9223372036854775807 -1 0", "9223372036854775807 -9223372036854775807 -1 0");
        becomes(4, "0 1 1 1 1 1 1", "0 1 2 -1 256 4294967296 -9223372036854775808");
        // The smallest of longs, which is NO, is an item as others are.
        on.calls("item(3, 1, -9223372036854775808) = 1", "peek(3, 1) = -9223372036854775808", "item(3, 1, 5) = 1");
        on.calls("peek(3, 0) = 0", "peek(3, 1) = 5", "peek(3, 2) = 0");
    }

    private static void becomes(int sort, String wants, String puts) {
        String[] want = wants.split(" ");
        String[] put = puts.split(" ");
        for (int k = 0; k < want.length; k++) {
            on.calls("item(" + sort + ", 1, " + put[k] + ") = 1", "peek(" + sort + ", 1) = " + want[k]);
        }
        on.calls("peek(" + sort + ", 0) = 0", "peek(" + sort + ", 2) = 0");
    }

    private static void itemNone() {
        on.sentence("Promise 33", "NONE;");
        on.rich();
        on.outside("item(*, 0, 1) = NONE", 0, 5);
        on.calls("item(0, 0, 1) = 1", "peek(0, 0) = 1", "tape(5, 0, 1)", "item(5, 0, 1) = 1", "peek(5, 0) = 1");
    }

    private static void itemNothing() {
        on.sentence("Promise 33", "NOTHING;");
        for (int t = 0; t <= 5; t++) {
            on.calls("item(" + t + ", 0, 1) = NOTHING", "tape(" + t + ", 3, 1)", "item(" + t + ", 0, 1) = 1");
            on.calls("tape(" + t + ", -1, 1)", "item(" + t + ", 0, 1) = NOTHING", "tape(" + t + ", 3, 0)");
            on.calls("item(" + t + ", 0, 1) = PLACE", "tape(" + t + ", -1, 0)");
        }
        on.rich();
        on.calls("item(5, 0, 1) = NOTHING", "item(5, -1, 1) = NOTHING", "item(5, 2147483647, 1) = NOTHING");
    }

    private static void itemPlace() {
        on.sentence("Promise 33", "PLACE.");
        on.rich();
        for (int t = 0; t <= 4; t++) {
            on.outside("item(" + t + ", *, 1) = PLACE", 0, 3);
            on.calls("item(" + t + ", 0, 1) = 1", "item(" + t + ", 3, 1) = 1", "peek(" + t + ", 3) = 1");
        }
        on.calls("tape(0, 0, 60)");
        on.outside("item(0, *, 1) = PLACE", 0, 59);
        on.calls("item(0, 59, 1) = 1", "tape(0, 0, 0)", "item(0, 0, 1) = PLACE");
    }

    private static void peek() {
        on.sentence("Promise 34", "Item i of a TAPE.");
        on.rich();
        on.row("peek(0, *)", 0, 5, 0, 0, Long.MIN_VALUE);
        on.row("peek(1, *)", 0, 5, 0, 7, Long.MIN_VALUE);
        on.row("peek(2, *)", 0, 0, -9, 0, Long.MIN_VALUE);
        on.row("peek(3, *)", 0, 0, 0, 77, Long.MIN_VALUE);
        on.row("peek(4, *)", 1, 0, 0, 0, Long.MIN_VALUE);
    }

    private static void peekNo() {
        on.sentence("Promise 34", "NO: no such TAPE, nothing there, no such place.");
        on.rich();
        on.outside("peek(*, 0) = NO", 0, 4);
        on.outside("peek(*, 0) = NO", 0, 5);
        for (int t = 0; t <= 4; t++) {
            on.outside("peek(" + t + ", *) = NO", 0, 3);
        }
        on.calls("peek(0, 0) = 0", "peek(4, 3) = 0", "peek(5, 0) = NO", "tape(5, 1, 1)", "peek(5, 0) = 0", "peek(5, 1) = NO");
        on.calls("tape(5, 1, 0)", "peek(5, 0) = NO", "tape(3, -1, 0)", "peek(3, 3) = NO", "tape(4, 4, 60)");
        on.outside("peek(4, *) = NO", 0, 59);
        on.calls("peek(4, 59) = 0");
    }

    // ---- promise 35

    private static void shift() {
        on.sentence("Promise 35", "n items of a TAPE from i on come to another one (or the same) from j on, as they all "
                + "were before: n.");
        for (int sort = 0; sort <= 4; sort++) {
            on.anew();
            on.calls("tape(0, " + sort + ", 5)", "tape(5, " + sort + ", 3)", "item(0, 0, 1)", "item(0, 3, 1)", "item(5, 2, 1)");
            on.calls("shift(0, 2, 5, 0, 2) = 2");
            on.row("peek(5, *)", 0, 1, 1, Long.MIN_VALUE);
            on.row("peek(0, *)", 1, 0, 0, 1, 0, Long.MIN_VALUE);
            on.calls("shift(0, 4, 5, 2, 1) = 1", "shift(0, 0, 5, 0, 0) = 0", "shift(0, 5, 5, 3, 0) = 0");
            on.row("peek(5, *)", 0, 1, 0, Long.MIN_VALUE);
            on.calls("shift(5, 0, 0, 2, 3) = 3");
            on.row("peek(0, *)", 1, 0, 0, 1, 0, Long.MIN_VALUE);
        }
        on.anew();
        on.calls("tape(0, 3, 60)", "tape(1, 3, 60)", "item(0, 0, 4)", "item(0, 59, -9223372036854775808)");
        on.calls("shift(0, 0, 1, 0, 60) = 60", "peek(1, 0) = 4", "peek(1, 59) = -9223372036854775808");
        on.calls("tape(2, 0, 0)", "tape(3, 0, 0)", "shift(2, 0, 3, 0, 0) = 0", "shift(2, 0, 2, 0, 0) = 0");
    }

    private static void shiftSame() {
        on.sentence("Promise 35", "(or the same) from j on, as they all were before: n.");
        on.calls("tape(0, 1, 5)");
        fill();
        on.calls("shift(0, 0, 0, 1, 4) = 4");
        on.row("peek(0, *)", 1, 1, 2, 3, 4);
        fill();
        on.calls("shift(0, 1, 0, 0, 4) = 4");
        on.row("peek(0, *)", 2, 3, 4, 5, 5);
        fill();
        on.calls("shift(0, 0, 0, 2, 3) = 3");
        on.row("peek(0, *)", 1, 2, 1, 2, 3);
        fill();
        on.calls("shift(0, 0, 0, 0, 5) = 5", "shift(0, 2, 0, 2, 3) = 3", "shift(0, 5, 0, 5, 0) = 0");
        on.row("peek(0, *)", 1, 2, 3, 4, 5);
    }

    private static void fill() {
        on.calls("item(0, 0, 1)", "item(0, 1, 2)", "item(0, 2, 3)", "item(0, 3, 4)", "item(0, 4, 5)");
    }

    private static void shiftNone() {
        on.sentence("Promise 35", "NONE: tapes;");
        on.rich();
        on.outside("shift(*, 0, 1, 0, 1) = NONE", 0, 5);
        on.outside("shift(1, 0, *, 0, 1) = NONE", 0, 5);
        on.outside("shift(*, 0, 1, 0, 0) = NONE", 0, 5);
        on.calls("tape(0, 1, 1)", "tape(5, 1, 1)", "shift(1, 3, 5, 0, 1) = 1", "peek(5, 0) = 7", "shift(5, 0, 0, 0, 1) = 1");
        on.calls("peek(0, 0) = 7");
    }

    private static void shiftNothing() {
        on.sentence("Promise 35", "NOTHING;");
        on.calls("shift(0, 0, 1, 0, 0) = NOTHING", "shift(0, 0, 0, 0, 0) = NOTHING", "tape(0, 1, 4)");
        on.calls("shift(0, 0, 1, 0, 0) = NOTHING", "shift(1, 0, 0, 0, 0) = NOTHING", "shift(0, 0, 0, 0, 0) = 0");
        on.rich();
        on.calls("shift(5, 0, 0, 0, 1) = NOTHING", "shift(0, 0, 5, 0, 1) = NOTHING", "tape(5, 0, 1)");
        on.calls("shift(0, 1, 5, 0, 1) = 1", "peek(5, 0) = 5", "tape(5, -1, 1)", "shift(0, 1, 5, 0, 1) = NOTHING");
    }

    private static void shiftCast() {
        on.sentence("Promise 35", "CAST: of unlike sorts;");
        on.rich();
        for (int one = 0; one <= 4; one++) {
            for (int other = 0; other <= 4; other++) {
                String due = one == other ? "4" : "CAST";
                on.calls("shift(" + one + ", 0, " + other + ", 0, 4) = " + due);
            }
        }
        // However few come, and whatever the places are.
        on.calls("shift(0, 0, 1, 0, 0) = CAST", "shift(0, 9, 1, 0, 0) = CAST", "tape(1, 0, 4)", "shift(0, 1, 1, 0, 1) = 1");
        on.calls("peek(1, 0) = 5");
    }

    private static void shiftPlace() {
        on.sentence("Promise 35", "PLACE: n, i or j is below 0, or beyond either's end.");
        on.rich();
        on.calls("tape(5, 1, 2)");
        on.outside("shift(1, 0, 1, 0, *) = PLACE", 0, 4);
        on.outside("shift(1, *, 1, 0, 1) = PLACE", 0, 3);
        on.outside("shift(1, 0, 1, *, 1) = PLACE", 0, 3);
        on.outside("shift(1, *, 1, 0, 0) = PLACE", 0, 4);
        on.outside("shift(1, 0, 1, *, 0) = PLACE", 0, 4);
        on.outside("shift(1, 0, 5, 0, *) = PLACE", 0, 2);
        on.outside("shift(5, 0, 1, 0, *) = PLACE", 0, 2);
        on.outside("shift(1, 1, 5, *, 1) = PLACE", 0, 1);
        on.outside("shift(5, *, 1, 1, 1) = PLACE", 0, 1);
        on.calls("shift(1, 1, 1, 1, 2147483647) = PLACE", "shift(1, 2147483647, 1, 1, 2147483647) = PLACE");
        on.calls("shift(1, 1, 1, 2147483647, 2147483647) = PLACE", "shift(1, 2, 1, 0, 3) = PLACE");
        on.calls("shift(1, 0, 1, 2, 3) = PLACE", "shift(1, 0, 1, -1, 2) = PLACE", "shift(1, -1, 1, 0, 2) = PLACE");
        on.calls("shift(1, 3, 5, 1, 1) = 1", "peek(5, 1) = 7", "shift(1, 4, 5, 2, 0) = 0", "shift(1, 0, 5, 0, 2) = 2");
        on.calls("peek(5, 1) = 5", "shift(1, 0, 1, 0, 4) = 4", "shift(1, 2, 1, 0, 2) = 2", "peek(1, 1) = 7");
    }
}
