/** Counts the answers of one test that are not as due, and ends its run. */
final class Due {
    private final String test;
    private int checks = 0;
    private int wrong = 0;

    Due(String test) {
        this.test = test;
    }

    void is(String what, long got, long want) {
        checks++;
        if (got != want) {
            wrong++;
            System.out.println(test + ": " + what + " answered " + got + ", due is " + want);
        }
    }

    void holds(String what, boolean so) {
        checks++;
        if (!so) {
            wrong++;
            System.out.println(test + ": it does not hold that " + what);
        }
    }

    /** The answers of a call for 0, 1, .. one behind the other. */
    void row(String what, Asked asked, long... wants) {
        for (int k = 0; k < wants.length; k++) {
            is(what + " at " + k, asked.at(k), wants[k]);
        }
    }

    void end() {
        System.out.println(test + ": " + checks + " checks, " + wrong + " wrong");
        if (wrong != 0 || checks == 0) {
            System.exit(1);
        }
    }

    interface Asked {
        long at(int k);
    }

    static int feedAll(StormRunoff x, String text) {
        int last = 0;
        for (int k = 0; k < text.length(); k++) {
            last = x.feed(text.charAt(k));
        }
        return last;
    }

    static int readAll(StormRunoff x, String text) {
        feedAll(x, text);
        return x.read();
    }

    static void rainAll(StormRunoff x, int... numbers) {
        for (int h = 0; h < 8; h++) {
            x.rain(h, h < numbers.length ? numbers[h] : 0);
        }
    }

    static void tellAll(StormRunoff x, int... numbers) {
        for (int h = 0; h < 12; h++) {
            x.tell(h, h < numbers.length ? numbers[h] : 0);
        }
    }
}
