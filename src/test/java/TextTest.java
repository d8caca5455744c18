/** Promises 7 and 8. */
public final class TextTest {
    private static final int BAD = -2, FULL = -4;
    private static final Due due = new Due("TextTest");

    public static void main(String[] args) {
        feed();
        whole();
        refused();
        faults();
        limits();
        emptied();
        due.end();
    }

    private static void feed() {
        StormRunoff x = new StormRunoff();
        due.is("7: below", x.feed(-1), BAD);
        due.is("7: above", x.feed(128), BAD);
        due.is("7: the least", x.feed(0), 1);
        due.is("7: the greatest", x.feed(127), 2);
        for (int k = 3; k <= 100; k++) {
            due.is("7: how many", x.feed('b'), k);
        }
        due.is("7: a 101st", x.feed('b'), FULL);
        due.is("7: BAD ahead of FULL", x.feed(128), BAD);
        due.is("7: how many", x.count(3), 100);
    }

    private static int read(StormRunoff x, String text) {
        return Due.readAll(x, text);
    }

    private static void whole() {
        StormRunoff x = new StormRunoff();
        due.is("8: four CLAUSES", read(x, "b203;k024;w1,02,020;t999,0,7"), 4);
        due.is("8: a BASIN", x.basins(), 1);
        due.row("8: ANSWER", k -> x.told(0, k), 2, 0, 3, 0, 0, 2, 4);
        due.row("8: RAIN", k -> x.of(0, k), 1, 2, 20, 0, 0, 0, 0, 0);
        due.row("8: TOLD", k -> x.of(1, k), 999, 0, 7, 0, 0, 0, 0, 0, 0, 0, 0, 0);
        due.is("8: one behind the other", read(x, "w1,1,1,1,1,1,1,1;w5;t1,2,3,4,5,6,7,8,9,10,11,12;b1;b9;k110"), 6);
        due.row("8: all others 0", k -> x.of(0, k), 5, 0, 0, 0, 0, 0, 0, 0);
        due.row("8: TOLD", k -> x.of(1, k), 1, 2, 3, 4, 5, 6, 7, 8, 9, 10, 11, 12);
        due.is("8: the KIND of the BASIN that came", x.told(1, 5), 1);
        due.is("8: its NUMBER", x.told(1, 6), 0);
        due.is("8: 8 of RAIN", read(x, "w1,2,3,4,5,6,7,8"), 1);
        due.row("8: RAIN", k -> x.of(0, k), 1, 2, 3, 4, 5, 6, 7, 8);
        StormRunoff y = new StormRunoff();
        due.is("8: a BASIN behind more NUMBERS", read(y, "w9,9,9;b1"), 2);
        due.row("8: its ANSWER alone", k -> y.told(0, k - 1), 1, 1, 0, 0);
        due.is("8: TOLD of one", read(x, "t5"), 1);
        due.row("8: all others 0", k -> x.of(1, k), 5, 0, 0, 0, 0, 0, 0, 0, 0, 0, 0, 0);
    }

    private static void refused() {
        StormRunoff x = new StormRunoff();
        due.is("8: the first of ANSWER is 0", read(x, "b0"), 0);
        due.is("8: likewise", read(x, "b05"), 0);
        due.is("8: no BASIN came", x.basins(), 0);
        due.is("8: no such BASIN", read(x, "k000;b5"), 1);
        due.is("8: no such KIND, POND by 0", read(x, "k050;k020;k310;k021"), 1);
        due.is("8: KIND", x.told(0, 5), 2);
        x.rain(2, 7);
        due.is("8: above 20", read(x, "w1,21,3"), 0);
        due.is("8: above 20 in the last", read(x, "w1,2,999;t4"), 1);
        due.is("8: above 20 in the first", read(x, "w21"), 0);
        due.row("8: none of them is", k -> x.of(0, k), 0, 0, 7, 0, 0, 0, 0, 0);
        due.is("8: a fourth BASIN", read(x, "b1;b2;b3;b4"), 2);
        due.is("8: three", x.basins(), 3);
    }

    private static void faults() {
        StormRunoff x = new StormRunoff();
        due.is("8: nothing", read(x, ""), -10);
        due.is("8: no letter", read(x, "x"), -10);
        due.is("8: no capital", read(x, "B1"), -10);
        due.is("8: no blank", read(x, "b1; b2"), -13);
        due.is("8: no digit", read(x, "b"), -11);
        due.is("8: no digit", read(x, "bx"), -11);
        due.is("8: a sixth digit", read(x, "b123456"), -16);
        due.is("8: , in an ANSWER", read(x, "b1,2"), -12);
        due.is("8: ; at the end", read(x, "b1;"), -13);
        due.is("8: two ;", read(x, "b1;;b2"), -13);
        due.is("8: k too short", read(x, "k01"), -13);
        due.is("8: k too short", read(x, "k01;"), -13);
        due.is("8: k too long", read(x, "k0123"), -14);
        due.is("8: w alone", read(x, "w"), -11);
        due.is("8: , first", read(x, "w,1"), -11);
        due.is("8: , at the end", read(x, "w1,"), -13);
        due.is("8: two ,", read(x, "w1,,2"), -13);
        due.is("8: a fourth digit", read(x, "w1,0001"), -16);
        due.is("8: a fourth digit of TOLD", read(x, "t1000"), -14);
        due.is("8: a ninth", read(x, "w1,2,3,4,5,6,7,8,9"), -26);
        due.is("8: , behind the eighth", read(x, "w1,2,3,4,5,6,7,8,"), -26);
        due.is("8: a thirteenth", read(x, "t1,2,3,4,5,6,7,8,9,1,2,3,4"), -34);
        due.is("8: letter behind a NUMBER", read(x, "t1b1"), -12);
        due.is("8: the sign 0", x.feed(0), 1);
        due.is("8: the sign 0", x.read(), -10);
        due.is("8: the sign ahead of 0", read(x, "b/"), -11);
        due.is("8: the sign behind 9", read(x, "b:"), -11);
        due.is("8: a FAULT late", read(x, "b1;w3;t4;k01"), -22);
        due.is("8: nothing was done", x.basins(), 0);
        due.is("8: nothing was done", x.row(0, 0), 0);
        due.is("8: nothing was done", x.row(1, 0), 0);
    }

    private static void limits() {
        StormRunoff x = new StormRunoff();
        String twelve = "w1;w2;w3;w4;w5;w6;w7;w8;w9;t1;t2;t3";
        due.is("8: twelve", read(x, twelve), 12);
        due.is("8: the last stays", x.of(1, 0), 3);
        due.is("8: ; behind the twelfth", read(x, twelve + ";"), -45);
        due.is("8: a thirteenth", read(x, twelve + ";w1"), -45);
        String hundred = "t100,200,300,400,500,600,700,800,900,100,200,300;t11,22,33,44,55,66,77,88,99,10,20,300;w1,2,3,4,10,6";
        due.is("8: 100 signs", hundred.length(), 100);
        due.is("8: 100 signs are read", read(x, hundred), 3);
        due.row("8: RAIN", k -> x.of(0, k), 1, 2, 3, 4, 10, 6, 0, 0);
        due.is("8: 100 signs that end too early", read(x, hundred.substring(0, 96) + "106,"), -110);
    }

    private static void emptied() {
        StormRunoff x = new StormRunoff();
        Due.feedAll(x, "b1");
        due.is("8: ahead", x.count(3), 2);
        due.is("8: read", x.read(), 1);
        due.is("8: empty then", x.count(3), 0);
        Due.feedAll(x, "zzz");
        due.is("8: a FAULT", x.read(), -10);
        due.is("8: empty by a FAULT, too", x.count(3), 0);
        due.is("8: how many it has then", x.feed('t'), 1);
    }
}
