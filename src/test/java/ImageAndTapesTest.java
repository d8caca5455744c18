/** Promises 28 to 35. */
public final class ImageAndTapesTest {
    private static final int NONE = -1, BAD = -2, STATE = -3, NOTHING = -11, CAST = -12, PLACE = -13, SIZE = -14;
    private static final long NO = Long.MIN_VALUE;
    private static final Due due = new Due("ImageAndTapesTest");

    public static void main(String[] args) {
        judge();
        imageAndUndo();
        imageOfFewerBasins();
        imageOfRows();
        count();
        tape();
        item();
        peek();
        shift();
        due.end();
    }

    private static void judge() {
        StormRunoff x = new StormRunoff();
        due.is("28: no BASIN", x.judge(0, 0, 0), NONE);
        x.basin(12);
        x.rain(0, 3);
        due.is("28: BASIN below", x.judge(-1, 0, 0), NONE);
        due.is("28: TAPE below", x.judge(0, -1, 0), NONE);
        due.is("28: TAPE above", x.judge(0, 6, 0), NONE);
        due.is("28: nothing there", x.judge(0, 0, 0), 100);
        due.is("28: nothing there", x.judge(0, 0, -1), 100);
        for (int sort = 0; sort <= 4; sort++) {
            x.tape(sort, sort, 40);
            due.is("28: sort " + sort, x.judge(0, sort, 0), sort == 1 ? 0 : CAST);
        }
        due.is("28: CAST, wherever", x.judge(0, 0, -1), CAST);
        due.is("28: NONE comes first", x.judge(1, 0, 0), NONE);
        x.item(1, 4, 3);
        due.is("28: hour 1 otherwise", x.judge(0, 1, 4), 1);
        x.item(1, 5, 6);
        due.is("28: all 30", x.judge(0, 1, 4), -5);
        due.is("28: all but the last", x.judge(0, 1, 3), 0);
        x.item(1, 33, 1);
        due.is("28: the last hour otherwise", x.judge(0, 1, 4), 29);
        x.item(1, 33, 0);
        x.item(1, 34, 1);
        due.is("28: behind the last hour", x.judge(0, 1, 4), -5);
        due.is("28: place below 0", x.judge(0, 1, -1), 100);
        due.is("28: place at the end", x.judge(0, 1, 40), 100);
        due.is("28: place beyond", x.judge(0, 1, 41), 100);
        due.is("28: place far off", x.judge(0, 1, Integer.MAX_VALUE), 100);
        due.is("28: place far off", x.judge(0, 1, Integer.MIN_VALUE), 100);
        x.item(1, 38, 3);
        due.is("28: otherwise ahead of the end", x.judge(0, 1, 38), 1);
        x.item(1, 39, 6);
        due.is("28: two were looked at", x.judge(0, 1, 38), 102);
        x.tape(2, 1, 0);
        due.is("28: a row of none", x.judge(0, 2, 0), 100);
        x.tape(2, 1, 30);
        x.hold(0, 3, 0);
        due.is("28: OUT, not FLOW", x.judge(0, 2, 0), -5);
        due.is("28: one fewer", x.judge(0, 2, 1), 129);
    }

    private static void imageAndUndo() {
        StormRunoff x = new StormRunoff();
        due.is("30: there is none", x.undo(), STATE);
        x.basin(31);
        x.hold(0, 2, 2);
        x.rain(1, 7);
        x.tell(2, 9);
        x.see(3, 4);
        x.event(0, 1);
        x.book(5, 6);
        Due.feedAll(x, "b1");
        x.tape(0, 1, 3);
        due.is("29: how many BASINS", x.image(), 1);
        due.is("29: nothing changed", x.of(0, 1), 7);
        x.hold(0, 1, 9);
        x.basin(5);
        x.rain(1, 8);
        x.rain(2, 8);
        x.tell(2, 10);
        x.see(-1, 0);
        x.event(-1, 0);
        x.event(1, 1);
        x.event(1, 1);
        x.book(6, 6);
        x.feed(';');
        x.item(0, 1, 5);
        due.is("30: how many BASINS", x.undo(), 1);
        due.is("30: BASINS", x.basins(), 1);
        due.row("30: its RESERVOIR", k -> x.told(0, k), 3, 1, 0, 0, 0, 2, 2);
        due.row("30: RAIN", k -> x.of(0, k), 0, 7, 0, 0, 0, 0, 0, 0);
        due.is("30: TOLD", x.of(1, 2), 9);
        due.row("30: SEEN, EVENTS, the BOOK; THE TEXT is no part of it", k -> x.count(k), 1, 1, 1, 3);
        due.is("30: the TAPES are no part of it", x.peek(0, 1), 5);
        due.row("30: what is SEEN: a POND of 21, 11 and 7, 9, lets 4 out", k -> x.fits(0, k), 1, 0);
        due.is("30: the BOOK", x.looked(), 0);
        x.rain(1, 0);
        due.is("30: a second time", x.undo(), 1);
        due.is("30: RAIN", x.of(0, 1), 7);
        x.rain(1, 2);
        x.basin(4);
        due.is("29: taken anew", x.image(), 2);
        x.rain(1, 3);
        due.is("30: the new one", x.undo(), 2);
        due.is("30: RAIN", x.of(0, 1), 2);
    }

    private static void imageOfFewerBasins() {
        StormRunoff x = new StormRunoff();
        due.is("29: none", x.image(), 0);
        x.basin(98765);
        x.hold(0, 3, 1);
        due.is("30: none", x.undo(), 0);
        due.is("30: no BASIN 0", x.told(0, 5), NONE);
        due.is("3: BASIN 0 again", x.basin(1), 0);
        due.is("3: its numbers", x.told(0, -1), 1);
        due.row("3: none of the old ones", k -> x.told(0, k), 1, 0, 0, 0, 0, 0, 0);
        x.tell(0, 4);
        x.rain(0, 4);
        due.row("30: its ODDS", k -> x.odds(0, 3, k), 17, 21);
    }

    private static void imageOfRows() {
        StormRunoff x = new StormRunoff();
        x.basin(1);
        Due.rainAll(x, 3, 5);
        x.see(0, 3);
        x.see(1, 5);
        x.event(1, 0);
        x.book(0, 3);
        x.book(1, 6);
        x.image();
        x.see(-1, 0);
        x.event(-1, 0);
        x.book(-1, 0);
        x.see(1, 3);
        x.see(0, 6);
        x.event(0, 1);
        x.book(2, 9);
        x.book(3, 9);
        due.row("29: ahead of undo, FITS", k -> x.fits(0, k), 0, -5);
        due.row("29: ahead of undo, AFTER", k -> x.after(k), 10, 1, 13);
        due.is("29: ahead of undo, LOOKED at", x.looked(), 0);
        x.undo();
        due.row("30: the rows that were SEEN", k -> x.fits(0, k), 1, 3);
        due.row("30: the rows of EVENTS", k -> x.after(k), 5, 1, 5);
        due.is("30: the rows of the BOOK", x.looked(), 1);
    }

    private static void count() {
        StormRunoff x = new StormRunoff();
        due.is("31: below", x.count(-1), BAD);
        due.is("31: above", x.count(4), BAD);
        x.see(0, 0);
        x.event(0, 0);
        x.event(0, 0);
        x.book(0, 0);
        x.book(0, 0);
        x.book(0, 0);
        Due.feedAll(x, "abcd");
        due.row("31: how many", k -> x.count(k), 1, 2, 3, 4, BAD);
    }

    private static void tape() {
        StormRunoff x = new StormRunoff();
        due.is("32: below", x.tape(-1, 0, 0), NONE);
        due.is("32: above", x.tape(6, 0, 0), NONE);
        due.is("32: NONE comes first", x.tape(6, 9, 99), NONE);
        due.is("32: sort below", x.tape(0, -2, 0), BAD);
        due.is("32: sort above", x.tape(0, 5, 0), BAD);
        due.is("32: BAD ahead of SIZE", x.tape(0, 5, -1), BAD);
        due.is("32: n above", x.tape(0, 0, 61), BAD);
        due.is("32: a size below 0", x.tape(0, 0, -1), SIZE);
        due.is("32: a size far below 0", x.tape(0, 4, Integer.MIN_VALUE), SIZE);
        due.is("32: nothing there yet", x.item(0, 0, 1), NOTHING);
        due.is("32: of 60", x.tape(0, 3, 60), 1);
        due.is("32: the last", x.item(0, 59, 7), 1);
        due.is("32: nothing changes by BAD", x.tape(0, 3, 61), BAD);
        due.is("32: nothing changes by SIZE", x.tape(0, 3, -1), SIZE);
        due.is("32: the last", x.peek(0, 59), 7);
        due.is("32: anew", x.tape(0, 3, 60), 1);
        due.is("32: all 0", x.peek(0, 59), 0);
        due.is("32: of none", x.tape(0, 0, 0), 1);
        due.is("32: no place in it", x.item(0, 0, 0), PLACE);
        due.is("32: n does not matter", x.tape(0, -1, 99), 1);
        due.is("32: n does not matter", x.tape(1, -1, -99), 1);
        due.is("32: holds nothing", x.item(0, 0, 0), NOTHING);
        due.is("32: the last TAPE", x.tape(5, 4, 1), 1);
    }

    private static void item() {
        StormRunoff x = new StormRunoff();
        due.is("33: below", x.item(-1, 0, 0), NONE);
        due.is("33: above", x.item(6, 0, 0), NONE);
        due.is("33: nothing there", x.item(0, -1, 0), NOTHING);
        for (int sort = 0; sort <= 4; sort++) {
            x.tape(sort, sort, 2);
        }
        due.is("33: place below", x.item(0, -1, 0), PLACE);
        due.is("33: place above", x.item(0, 2, 0), PLACE);
        due.is("33: place far off", x.item(0, Integer.MAX_VALUE, 0), PLACE);
        items(x, 0, 128, -128, 255, -1, 256, 0, -129, 127);
        items(x, 1, 32768, -32768, 65535, -1, 65536, 0, 32767, 32767);
        items(x, 2, 2147483648L, -2147483648L, 4294967295L, -1, 4294967296L, 0, -7, -7);
        items(x, 3, Long.MAX_VALUE, Long.MAX_VALUE, Long.MIN_VALUE + 1, Long.MIN_VALUE + 1, -1, -1, 0, 0);
        items(x, 4, 1, 1, 0, 0, -1, 1, 4294967296L, 1);
    }

    private static void items(StormRunoff x, int sort, long... putAndDue) {
        for (int k = 0; k < putAndDue.length; k += 2) {
            due.is("33: it becomes so", x.item(sort, 1, putAndDue[k]), 1);
            due.is("33: cut to sort " + sort, x.peek(sort, 1), putAndDue[k + 1]);
            due.is("33: the other one stays", x.peek(sort, 0), 0);
        }
    }

    private static void peek() {
        StormRunoff x = new StormRunoff();
        due.is("34: below", x.peek(-1, 0), NO);
        due.is("34: above", x.peek(6, 0), NO);
        due.is("34: nothing there", x.peek(0, 0), NO);
        x.tape(0, 3, 3);
        due.is("34: place below", x.peek(0, -1), NO);
        due.is("34: place above", x.peek(0, 3), NO);
        x.item(0, 2, 5);
        due.row("34: items", k -> x.peek(0, k), 0, 0, 5, NO);
        x.tape(0, -1, 3);
        due.is("34: nothing there again", x.peek(0, 2), NO);
        due.is("34: nothing there again", x.peek(0, 0), NO);
    }

    private static void shift() {
        StormRunoff x = new StormRunoff();
        due.is("35: below", x.shift(-1, 0, 0, 0, 0), NONE);
        due.is("35: above", x.shift(6, 0, 0, 0, 0), NONE);
        due.is("35: the other below", x.shift(0, 0, -1, 0, 0), NONE);
        due.is("35: the other above", x.shift(0, 0, 6, 0, 0), NONE);
        due.is("35: nothing there", x.shift(0, 0, 0, 0, 0), NOTHING);
        x.tape(0, 1, 5);
        due.is("35: nothing in the other", x.shift(0, 0, 1, 0, -1), NOTHING);
        due.is("35: nothing in the one", x.shift(1, 0, 0, 0, -1), NOTHING);
        x.tape(1, 2, 4);
        due.is("35: unlike sorts, ahead of PLACE", x.shift(0, 0, 1, 0, -1), CAST);
        x.tape(1, 1, 4);
        for (int k = 0; k < 5; k++) {
            x.item(0, k, k + 1);
        }
        due.is("35: n below 0", x.shift(0, 0, 1, 0, -1), PLACE);
        due.is("35: i below 0", x.shift(0, -1, 1, 0, 1), PLACE);
        due.is("35: j below 0", x.shift(0, 0, 1, -1, 1), PLACE);
        due.is("35: beyond the one's end", x.shift(0, 3, 1, 0, 3), PLACE);
        due.is("35: beyond the other's end", x.shift(0, 0, 1, 2, 3), PLACE);
        due.is("35: n far off", x.shift(0, 1, 1, 1, Integer.MAX_VALUE), PLACE);
        due.is("35: i far off", x.shift(0, Integer.MAX_VALUE, 1, 0, 1), PLACE);
        due.is("35: i beyond, none of it", x.shift(0, 6, 1, 0, 0), PLACE);
        due.is("35: j beyond, none of it", x.shift(0, 0, 1, 5, 0), PLACE);
        due.row("35: nothing changed", k -> x.peek(1, k), 0, 0, 0, 0, NO);
        due.is("35: none, from the end to the end", x.shift(0, 5, 1, 4, 0), 0);
        due.is("35: two", x.shift(0, 3, 1, 2, 2), 2);
        due.row("35: the other", k -> x.peek(1, k), 0, 0, 4, 5, NO);
        due.is("35: all", x.shift(1, 0, 0, 0, 4), 4);
        due.row("35: the one", k -> x.peek(0, k), 0, 0, 4, 5, 5, NO);
        for (int k = 0; k < 5; k++) {
            x.item(0, k, k + 1);
        }
        due.is("35: to behind itself", x.shift(0, 0, 0, 1, 4), 4);
        due.row("35: as they were before", k -> x.peek(0, k), 1, 1, 2, 3, 4);
        due.is("35: to ahead of itself", x.shift(0, 2, 0, 0, 3), 3);
        due.row("35: as they were before", k -> x.peek(0, k), 2, 3, 4, 3, 4);
        x.tape(4, 3, 60);
        x.tape(5, 3, 60);
        x.item(4, 59, Long.MIN_VALUE + 1);
        due.is("35: rows of 60", x.shift(4, 0, 5, 0, 60), 60);
        due.is("35: rows of 60", x.peek(5, 59), Long.MIN_VALUE + 1);
        due.is("35: one more", x.shift(4, 0, 5, 0, 61), PLACE);
        x.tape(2, 4, 2);
        x.tape(3, 4, 2);
        x.item(2, 1, 1);
        due.is("35: booleans", x.shift(2, 0, 3, 0, 2), 2);
        due.row("35: booleans", k -> x.peek(3, k), 0, 1);
    }
}
