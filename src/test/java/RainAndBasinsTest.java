/** Promises 1 to 6. */
public final class RainAndBasinsTest {
    private static final int NONE = -1, BAD = -2, STATE = -3, FULL = -4;
    private static final Due due = new Due("RainAndBasinsTest");

    public static void main(String[] args) {
        newObject();
        rain();
        basin();
        hold();
        tell();
        take();
        due.end();
    }

    private static void newObject() {
        StormRunoff x = new StormRunoff();
        due.row("1: RAIN", k -> x.of(0, k), 0, 0, 0, 0, 0, 0, 0, 0);
        due.row("1: TOLD", k -> x.of(1, k), 0, 0, 0, 0, 0, 0, 0, 0, 0, 0, 0, 0);
        for (int h = 0; h < 30; h++) {
            due.is("1: JOINED", x.of(2, h), 0);
        }
        due.is("1: BASINS", x.basins(), 0);
        due.row("1: counts", k -> x.count(k), 0, 0, 0, 0);
        due.is("1: no IMAGE", x.undo(), STATE);
        for (int t = 0; t < 6; t++) {
            due.is("1: TAPES hold nothing", x.item(t, 0, 1), -11);
        }
    }

    private static void rain() {
        StormRunoff x = new StormRunoff();
        due.is("2: what it was", x.rain(0, 20), 0);
        due.is("2: what it was", x.rain(0, 5), 20);
        due.is("2: the last hour", x.rain(7, 1), 0);
        due.is("2: hour below", x.rain(-1, 0), NONE);
        due.is("2: hour above", x.rain(8, 0), NONE);
        due.is("2: hour far off", x.rain(Integer.MIN_VALUE, 0), NONE);
        due.is("2: hour far off", x.rain(Integer.MAX_VALUE, 0), NONE);
        due.is("2: v below", x.rain(0, -1), BAD);
        due.is("2: v above", x.rain(0, 21), BAD);
        due.is("2: NONE comes first", x.rain(8, 21), NONE);
        due.row("2: RAIN", k -> x.of(0, k), 5, 0, 0, 0, 0, 0, 0, 1);
    }

    private static void basin() {
        StormRunoff x = new StormRunoff();
        due.is("3: 0", x.basin(0), BAD);
        due.is("3: below", x.basin(-1), BAD);
        due.is("3: above", x.basin(100000), BAD);
        due.is("3: none came", x.basins(), 0);
        due.is("3: five digits", x.basin(98765), 0);
        due.is("3: a 0 at the end", x.basin(10), 1);
        due.is("3: one digit", x.basin(7), 2);
        due.is("3: a fourth", x.basin(7), FULL);
        due.is("3: BAD ahead of FULL", x.basin(0), BAD);
        due.is("3: three", x.basins(), 3);
        due.row("3: ANSWER 0", k -> x.told(0, k), 9, 8, 7, 6, 5, 0, 0);
        due.row("3: ANSWER 1", k -> x.told(1, k), 1, 0, 0, 0, 0, 0, 0);
        due.row("3: ANSWER 2", k -> x.told(2, k), 7, 0, 0, 0, 0, 0, 0);
        due.row("3: how many numbers", k -> x.told(k, -1), 5, 2, 1);
        for (int answer = 1, places = 1; places <= 5; answer *= 10, places++) {
            StormRunoff edge = new StormRunoff();
            edge.basin(answer);
            edge.basin(10 * answer - 1);
            due.is("3: places of " + answer, edge.told(0, -1), places);
            due.is("3: places of " + (10 * answer - 1), edge.told(1, -1), places);
        }
        StormRunoff most = new StormRunoff();
        due.is("3: the greatest", most.basin(99999), 0);
        due.is("3: the least", most.basin(1), 1);
    }

    private static void hold() {
        StormRunoff x = new StormRunoff();
        due.is("4: no BASIN", x.hold(0, 0, 0), NONE);
        x.basin(1);
        due.is("4: below", x.hold(-1, 0, 0), NONE);
        due.is("4: NONE comes first", x.hold(1, 9, 99), NONE);
        due.is("4: THROUGH, 0 at first", x.hold(0, 2, 9), 0);
        due.is("4: what was", x.hold(0, 4, 0), 29);
        due.is("4: what was", x.hold(0, 1, 9), 40);
        due.is("4: kind below", x.hold(0, -1, 0), BAD);
        due.is("4: kind above", x.hold(0, 5, 0), BAD);
        due.is("4: n below", x.hold(0, 0, -1), BAD);
        due.is("4: n above", x.hold(0, 3, 10), BAD);
        due.is("4: POND by 0", x.hold(0, 2, 0), BAD);
        due.is("4: POND by 10", x.hold(0, 2, 10), BAD);
        due.is("4: nothing changed", x.told(0, 5), 1);
        due.is("4: nothing changed", x.told(0, 6), 9);
        due.is("4: POND by 1", x.hold(0, 2, 1), 19);
        due.is("4: THROUGH keeps its NUMBER", x.hold(0, 0, 7), 21);
        due.is("4: THROUGH with a NUMBER", x.hold(0, 0, 0), 7);
    }

    private static void tell() {
        StormRunoff x = new StormRunoff();
        due.is("5: what it was", x.tell(0, 999), 0);
        due.is("5: what it was", x.tell(0, 4), 999);
        due.is("5: the last hour", x.tell(11, 3), 0);
        due.is("5: hour below", x.tell(-1, 0), NONE);
        due.is("5: hour above", x.tell(12, 0), NONE);
        due.is("5: v below", x.tell(0, -1), BAD);
        due.is("5: v above", x.tell(0, 1000), BAD);
        due.is("5: NONE comes first", x.tell(12, 1000), NONE);
        due.row("5: TOLD", k -> x.of(1, k), 4, 0, 0, 0, 0, 0, 0, 0, 0, 0, 0, 3);
    }

    private static void take() {
        StormRunoff x = new StormRunoff();
        due.is("6: no BASIN", x.take(0), NONE);
        x.basin(12);
        x.rain(7, 9);
        Due.tellAll(x, 3, 6, 20, 40);
        due.is("6: its VOLUME", x.take(0), 23);
        due.row("6: RAIN", k -> x.of(0, k), 3, 0, 20, 0, 0, 0, 0, 0);
        x.tell(4, 21);
        due.is("6: a FLAW", x.take(0), STATE);
        due.is("6: below", x.take(-1), NONE);
        due.is("6: above", x.take(1), NONE);
        due.row("6: RAIN is as it was", k -> x.of(0, k), 3, 0, 20, 0, 0, 0, 0, 0);
    }
}
