import java.io.IOException;
import java.lang.reflect.Constructor;
import java.lang.reflect.Field;
import java.lang.reflect.Method;
import java.lang.reflect.Modifier;
import java.nio.file.Files;
import java.nio.file.Path;
import java.util.ArrayList;
import java.util.Arrays;
import java.util.List;
import java.util.Set;
import java.util.TreeSet;
import java.util.regex.Matcher;
import java.util.regex.Pattern;
import java.util.stream.Collectors;

/** The public face of the document, and of LANGUAGE.md what the compiled classes show. It is run from the project's root. */
public final class FaceTest {
    private static final Due due = new Due("FaceTest");
    private static final String[] FACE = {
        "int rain(int,int)", "int basin(int)", "int hold(int,int,int)", "int tell(int,int)", "int take(int)",
        "int feed(int)", "int read()", "int of(int,int)", "int told(int,int)", "int flow(int,int,int)",
        "int row(int,int)", "int basins()", "int flaw(int)", "int unfold(int,int)", "int backFlaw()", "int back(int)",
        "int nearest(int,int)", "int exchange(int)", "int see(int,int)", "int fits(int,int)",
        "long odds(int,int,int)", "long mean(int)", "int event(int,int)", "int after(int)", "int book(int,int)",
        "int looked()", "int judge(int,int,int)", "int image()", "int undo()", "int count(int)", "int tape(int,int,int)",
        "int item(int,int,long)", "long peek(int,int)", "int shift(int,int,int,int,int)",
    };

    public static void main(String[] args) throws IOException {
        Class<?> c = StormRunoff.class;
        document();
        constants();
        due.holds("the class is public and final", c.getModifiers() == (Modifier.PUBLIC | Modifier.FINAL));
        due.holds("it has no package", c.getPackageName().isEmpty());
        due.holds("it extends and implements nothing", c.getSuperclass() == Object.class && c.getInterfaces().length == 0);
        Constructor<?>[] makers = c.getDeclaredConstructors();
        due.holds("it has one constructor, public, of nothing", makers.length == 1
                && Modifier.isPublic(makers[0].getModifiers()) && makers[0].getParameterCount() == 0);
        Set<String> open = new TreeSet<>();
        for (Method m : c.getDeclaredMethods()) {
            if (!Modifier.isPrivate(m.getModifiers())) {
                open.add(m.getReturnType() + " " + m.getName() + Arrays.stream(m.getParameterTypes())
                        .map(Class::getSimpleName).collect(Collectors.joining(",", "(", ")")));
                due.is("modifiers of " + m.getName(), m.getModifiers(), Modifier.PUBLIC);
            }
        }
        due.holds("the methods that aren't private are the document's: " + open, open.equals(new TreeSet<>(Arrays.asList(FACE))));
        Set<String> fields = new TreeSet<>();
        for (Field f : c.getDeclaredFields()) {
            if (!Modifier.isPrivate(f.getModifiers())) {
                fields.add(f.toGenericString());
            }
        }
        due.is("fields that aren't private: " + fields, fields.size(), 5);
        Set<String> names = new TreeSet<>();
        for (String m : FACE) {
            names.add(m.substring(m.indexOf(' ') + 1, m.indexOf('(')));
        }
        inside(c, names);
        due.holds("there are twelve classes at most", 1 + c.getDeclaredClasses().length <= 12);
        for (Class<?> k : c.getDeclaredClasses()) {
            due.holds(k + " is private and static", Modifier.isPrivate(k.getModifiers()) && Modifier.isStatic(k.getModifiers()));
            due.is("classes inside " + k, k.getDeclaredClasses().length, 0);
            inside(k, names);
        }
        due.end();
    }

    /** The methods stand in the program as in the document, each with its line, under the words that stand ahead of it. */
    private static void document() throws IOException {
        String document = Files.readString(Path.of("../shared/DOC.md"));
        List<String> asked = allOf("(?m)^    public (\\w+ \\w+\\(.*\\));$", document);
        List<String> built = allOf("(?m)^    public (\\w+ \\w+\\(.*\\)) \\{$", program());
        due.is("methods of the document", asked.size(), FACE.length);
        due.holds("the program has the document's methods in their order: " + built, built.equals(asked));
        for (int k = 0; k < asked.size() && k < FACE.length; k++) {
            String unnamed = asked.get(k).replaceAll("(int|long) \\w+([,)])", "$1$2").replace(" ", "");
            due.holds(FACE[k] + " is the document's", unnamed.equals(FACE[k].replace(" ", "")));
        }
        for (String constants : allOf("(?m)^    (public static final .*;)$", document)) {
            due.holds("the program has the line " + constants, program().contains("    " + constants + "\n"));
        }
        Matcher ahead = Pattern.compile("Ahead of the calls `(\\w+)`.* the interface says: ---- (.*)\\.").matcher(document);
        int sections = 0;
        while (ahead.find()) {
            sections++;
            due.holds("ahead of " + ahead.group(1) + " the program says " + ahead.group(2), Pattern.compile(
                    "    // ---- " + ahead.group(2) + "\n\n    public \\w+ " + ahead.group(1) + "\\(").matcher(program()).find());
        }
        due.is("sections of the interface", sections, 6);
    }

    private static String program() throws IOException {
        return Files.readString(Path.of("src/main/java/StormRunoff.java"));
    }

    private static List<String> allOf(String pattern, String text) {
        List<String> all = new ArrayList<>();
        Matcher m = Pattern.compile(pattern).matcher(text);
        while (m.find()) {
            all.add(m.group(1));
        }
        return all;
    }

    private static void constants() {
        due.is("NONE", StormRunoff.NONE, -1);
        due.is("BAD", StormRunoff.BAD, -2);
        due.is("STATE", StormRunoff.STATE, -3);
        due.is("FULL", StormRunoff.FULL, -4);
        due.is("NO", StormRunoff.NO, Long.MIN_VALUE);
    }

    private static void inside(Class<?> c, Set<String> face) {
        int own = 0;
        for (Field f : c.getDeclaredFields()) {
            if (!Modifier.isStatic(f.getModifiers())) {
                own++;
            } else {
                due.holds(f + " is final", Modifier.isFinal(f.getModifiers()));
                due.holds(f + " is a constant", f.getType() == int.class || f.getType() == long.class);
            }
        }
        due.holds(c + " has twenty fields at most", own <= 20);
        for (Method m : c.getDeclaredMethods()) {
            due.holds(m + " takes seven at most", m.getParameterCount() <= 7);
            due.holds(m + " bears no public name", c == StormRunoff.class && Modifier.isPublic(m.getModifiers())
                    || !face.contains(m.getName()));
            due.holds(m + " was written by hand", !m.isSynthetic());
        }
    }
}
