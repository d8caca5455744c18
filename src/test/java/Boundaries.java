import java.io.IOException;
import java.lang.reflect.Method;
import java.nio.file.Files;
import java.nio.file.Path;
import java.util.ArrayList;
import java.util.HashMap;
import java.util.List;
import java.util.Map;
import java.util.Set;
import java.util.TreeMap;
import java.util.regex.Matcher;
import java.util.regex.Pattern;

/**
 * Tests of the document's sentences, one by one. Each says where its sentence stands and quotes it; the quote is looked
 * up in the document. Calls are written as text ("rain(8, 0) = NONE"), so that an object can be made once more by the
 * same calls: of each call that is refused, and of each that only asks, it is looked at that it changed nothing.
 */
final class Boundaries {
    private static final Path DOCUMENT = Path.of("../shared/DOC.md");
    private static final int MOST_CALLS = 512;
    private static final Set<String> CHANGING = Set.of("rain", "basin", "hold", "tell", "take", "feed", "read", "see",
            "event", "book", "image", "undo", "tape", "item", "shift");
    private static final Map<String, Long> NAMES = Map.of("NONE", -1L, "BAD", -2L, "STATE", -3L, "FULL", -4L,
            "NO", Long.MIN_VALUE, "NOTHING", -11L, "CAST", -12L, "PLACE", -13L, "SIZE", -14L);
    private static final Pattern CALL = Pattern.compile("(\\w+)\\(([-\\d, ]*)\\)(?: = (-?\\d+|[A-Z]+))?");
    /** What names a boundary case: a number, or a refusal. */
    private static final Pattern NAMED = Pattern.compile(
            "\\d|\\b(NONE|BAD|STATE|FULL|NO|NOTHING|CAST|PLACE|SIZE|FLAW|FAULT)\\b");

    private final Due due;
    private final Map<String, String> sections = readDocument();
    private final Map<String, String> unquoted = new TreeMap<>(sections);
    private final Map<String, Method> methods = new HashMap<>();
    private final List<String> history = new ArrayList<>();
    private StormRunoff x;
    private String where = "";

    Boundaries(String test) {
        due = new Due(test);
        for (Method m : StormRunoff.class.getMethods()) {
            methods.put(m.getName(), m);
        }
    }

    /** Begins the test of a sentence, on a new object. */
    void sentence(String section, String words) {
        where = section + ", \"" + words + "\": ";
        String text = sections.getOrDefault(section, "");
        due.holds(where + "that stands there", text.contains(words));
        unquoted.computeIfPresent(section, (name, rest) -> rest.replace(words, "|"));
        anew();
    }

    /** Goes on with a new object. */
    void anew() {
        x = new StormRunoff();
        history.clear();
    }

    /** Goes on with a new object that has something of everything; all that is SEEN is so, and all of the BOOK. */
    void rich() {
        anew();
        calls("basin(5)", "rain(0, 3)", "tell(1, 2)", "see(0, 15)", "event(1, 0)", "book(0, 15)", "image()");
        calls("see(-1, 0)", "event(-1, 0)", "book(-1, 0)");
        // OUT of 0 is 8 up to hour 21 and 4 in hour 22; OUT of 1 is 2 6 10 27 40 33 26 22 ..
        calls("hold(0, 3, 8)", "basin(231)", "hold(1, 2, 3)");
        calls("rain(0, 4)", "rain(2, 7)", "rain(3, 20)", "rain(6, 5)");
        calls("tell(0, 8)", "tell(1, 12)", "tell(2, 18)", "tell(3, 61)", "tell(4, 67)", "tell(5, 20)", "tell(6, 10)",
                "tell(7, 15)", "tell(8, 5)");
        calls("see(0, 10)", "see(3, 35)", "see(7, 30)", "event(0, 0)", "event(3, 1)", "event(2, 0)",
                "book(4, 48)", "book(29, 0)");
        calls("tape(0, 0, 4)", "tape(1, 1, 4)", "tape(2, 2, 4)", "tape(3, 3, 4)", "tape(4, 4, 4)");
        calls("item(0, 1, 5)", "item(1, 1, 5)", "item(1, 3, 7)", "item(2, 2, -9)", "item(3, 3, 77)", "item(4, 0, 1)");
        feedAll("b72;t3");
    }

    /** Each "name(numbers) = due"; without = due it is made alone. */
    void calls(String... all) {
        for (String one : all) {
            call(one);
        }
    }

    /** One call for 0, 1, .. in place of the *. */
    void row(String call, long... wants) {
        for (int k = 0; k < wants.length; k++) {
            call(call.replace("*", "" + k) + " = " + wants[k]);
        }
    }

    /** One call, refused, for the numbers just beside least .. most, and for those far off, in place of the *. */
    void outside(String call, long least, long most) {
        for (long v : new long[] {least - 1, most + 1, Integer.MIN_VALUE, Integer.MAX_VALUE}) {
            call(call.replace("*", "" + v));
        }
    }

    void feedAll(String text) {
        for (int k = 0; k < text.length(); k++) {
            call("feed(" + (int) text.charAt(k) + ")");
        }
    }

    /** THE TEXT is read, and empty then. By a FAULT nothing changes: it is as if it had not been fed. */
    void reads(String text, long want) {
        List<String> ahead = new ArrayList<>(history);
        feedAll(text);
        call("read() = " + want);
        if (want < 0) {
            due.is(where + "what changed by reading " + text, unlike(ahead, history), -1);
        }
        call("count(3) = 0");
    }

    /** By a FAULT at a place. */
    void faultAt(int place, String text) {
        reads(text, -10 - place);
    }

    void is(String what, long got, long want) {
        due.is(where + what, got, want);
    }

    /** These calls change something; behind them undo() makes all as it is now. */
    void undoes(String... changes) {
        List<String> changed = new ArrayList<>(history);
        changed.addAll(List.of(changes));
        due.holds(where + "there is something to undo", unlike(history, changed) >= 0);
        changed.add("undo()");
        due.is(where + "what undo() did not undo", unlike(history, changed), -1);
    }

    /** Each of 512 calls on one object is answered as it is due, the last of them, too. */
    void uses512Calls() {
        int[] rain = new int[8];
        for (int k = 0; k < MOST_CALLS - 1; k++) {
            due.is(where + "call " + (k + 1), x.rain(k % 8, k % 21), rain[k % 8]);
            rain[k % 8] = k % 21;
        }
        due.is(where + "call " + MOST_CALLS, x.of(0, 7), rain[7]);
    }

    /** Of these sections nothing that names a boundary case was left without a test. */
    void end(String... tested) {
        for (String section : tested) {
            String rest = unquoted.getOrDefault(section, "0");
            due.holds(section + " is tested whole; not: " + rest, !NAMED.matcher(rest).find());
        }
        due.end();
    }

    private void call(String text) {
        Matcher m = matched(text);
        long got = make(x, m);
        String want = m.group(3);
        due.holds(where + "an object is used for 512 calls at most", history.size() < MOST_CALLS);
        List<String> ahead = new ArrayList<>(history);
        history.add(text);
        if (want == null) {
            return;
        }
        long wanted = NAMES.containsKey(want) ? NAMES.get(want) : Long.parseLong(want);
        due.is(where + text + " behind " + (history.size() - 1) + " calls", got, wanted);
        boolean refused = wanted < 0 && !m.group(1).equals("read");
        if (refused || !CHANGING.contains(m.group(1))) {
            due.is(where + "what changed by " + text, unlike(ahead, history), -1);
        }
    }

    private static Matcher matched(String text) {
        Matcher m = CALL.matcher(text);
        if (!m.matches()) {
            throw new IllegalArgumentException("no call: " + text);
        }
        return m;
    }

    private long make(StormRunoff y, Matcher call) {
        Method method = methods.get(call.group(1));
        String inside = call.group(2).trim();
        String[] numbers = inside.isEmpty() ? new String[0] : inside.split(" *, *");
        Class<?>[] types = method.getParameterTypes();
        Object[] arguments = new Object[types.length];
        for (int k = 0; k < types.length; k++) {
            if (types[k] == long.class) {
                arguments[k] = Long.parseLong(numbers[k]);
            } else {
                arguments[k] = Integer.parseInt(numbers[k]);
            }
        }
        try {
            return ((Number) method.invoke(y, arguments)).longValue();
        } catch (ReflectiveOperationException e) {
            throw new IllegalStateException(call.group(), e);
        }
    }

    /** The first thing that is otherwise behind the one row of calls than behind the other; -1: all is alike. */
    private int unlike(List<String> one, List<String> other) {
        List<Long> a = allOf(one);
        List<Long> b = allOf(other);
        for (int k = 0; k < a.size(); k++) {
            if (!a.get(k).equals(b.get(k))) {
                return k;
            }
        }
        return -1;
    }

    /** All that an object made by these calls holds, THE TEXT and THE IMAGE last, since they are used up by it. */
    private List<Long> allOf(List<String> calls) {
        StormRunoff y = new StormRunoff();
        for (String one : calls) {
            make(y, matched(one));
        }
        List<Long> all = new ArrayList<>();
        addState(y, all);
        addTapes(y, all);
        all.add((long) y.count(3));
        all.add((long) y.read());
        addState(y, all);
        all.add((long) y.undo());
        addState(y, all);
        return all;
    }

    private static void addState(StormRunoff y, List<Long> all) {
        for (int h = 0; h < 12; h++) {
            all.add((long) y.of(0, Math.min(h, 7)));
            all.add((long) y.of(1, h));
        }
        for (int b = 0; b < 3; b++) {
            for (int what = -1; what < 7; what++) {
                all.add((long) y.told(b, what));
            }
        }
        for (int what = 0; what < 3; what++) {
            all.add((long) y.count(what));
            all.add((long) y.after(what));
        }
        for (int h = 0; h < 8; h += 3) {
            all.add((long) y.fits(h, 0));
            all.add((long) y.fits(h, 1));
        }
        all.add((long) y.basins());
        all.add((long) y.looked());
    }

    /** What is in them at some places, then of what sort they are: by what a number of many bits becomes there. */
    private static void addTapes(StormRunoff y, List<Long> all) {
        for (int t = 0; t < 6; t++) {
            for (int i : new int[] {0, 1, 2, 3, 4, 59}) {
                all.add(y.peek(t, i));
            }
            all.add((long) y.item(t, 0, 0x1_8081_8283L));
            all.add(y.peek(t, 0));
        }
    }

    /** Of each section its text, with one blank in place of more; "Promise 2" without what follows the colon. */
    private static Map<String, String> readDocument() {
        String document;
        try {
            document = Files.readString(DOCUMENT);
        } catch (IOException e) {
            throw new IllegalStateException("there is no " + DOCUMENT, e);
        }
        Map<String, String> found = new TreeMap<>();
        for (String part : document.split("(?m)^## ")) {
            int end = part.indexOf('\n');
            String name = part.substring(0, end).replaceAll(":.*", "").trim();
            String text = part.substring(end).replaceAll("```(text|java)?", " ").replaceAll("==== \\d", " ");
            found.put(name, text.replaceAll("\\s+", " ").trim());
        }
        return found;
    }
}
