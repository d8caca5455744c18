import java.io.IOException;
import java.nio.file.Files;
import java.nio.file.Path;
import java.util.List;
import java.util.regex.Matcher;
import java.util.regex.Pattern;

/** Of LANGUAGE.md what the source text shows. It is run from the project's root. */
public final class LanguageTest {
    private static final Due due = new Due("LanguageTest");
    private static final String[] UNWANTED = {
        "\\bthrows?\\b", "\\btry\\b", "\\bcatch\\b", "\\bfinally\\b", "\\bsynchronized\\b", "\\bvolatile\\b", "\\bassert\\b",
        "->", "::", "\\bpackage\\b", "\\bpublic\\s+(?!static\\s+final\\s+(int|long)\\b|final\\s+class\\b|StormRunoff\\b|int\\b|long\\b)",
        "\\bprotected\\b", "\\bvar\\b", "\\bObject\\b", "\\bHash", "\\bMap\\b", "\\bSet\\b", "\\bExact", "\\bString\\b",
        "\\bdouble\\b", "\\bfloat\\b", "\\binstanceof\\b", "static\\s*\\{", "\\bnew\\s+\\w+\\s*\\([^)]*\\)\\s*\\{",
        "\\bequals\\b", "\\bhashCode\\b", "\\btoString\\b", "\\bnative\\b", "\\bstrictfp\\b", "\\btransient\\b",
        "@", "\\bfor\\s*\\(\\s*;", "while\\s*\\(\\s*true", "\\bSystem\\.(?!arraycopy\\b)", "\\bMath\\.(?!min\\b|max\\b)",
        "\\bArrays\\.(?!fill\\b)", "\\bimport\\s+(?!java\\.util\\.Arrays;)", "\\bThread\\b", "\\bRandom\\b",
    };

    public static void main(String[] args) throws IOException {
        String source = Files.readString(Path.of("src/main/java/StormRunoff.java"));
        due.holds("its signs are 1 to 127", source.chars().allMatch(c -> c > 0 && c < 128));
        String code = source.replaceAll("(?s)/\\*.*?\\*/", "").replaceAll("//[^\n]*", "").replaceAll("'(\\\\.|[^'])'", "'c'");
        for (String unwanted : UNWANTED) {
            Matcher m = Pattern.compile(unwanted).matcher(code);
            due.holds("there is no " + unwanted, !m.find());
        }
        lengths(source.lines().toList());
        due.end();
    }

    /** A method's head stands at 4 or 8 blanks and ends with {; its end stands as deep. */
    private static void lengths(List<String> lines) {
        Pattern head = Pattern.compile("^( {4}| {8})\\S.*\\) \\{$");
        int methods = 0;
        for (int k = 0; k < lines.size(); k++) {
            Matcher m = head.matcher(lines.get(k));
            if (m.matches() && !lines.get(k).matches("^ +(if|for|while|switch|\\}).*")) {
                String end = m.group(1) + "}";
                int last = k;
                while (last < lines.size() && !lines.get(last).equals(end)) {
                    last++;
                }
                methods++;
                due.holds(lines.get(k).trim() + " has sixty lines at most", last - k <= 60);
            }
            due.holds("line " + (k + 1) + " is 120 wide at most", lines.get(k).length() <= 120);
        }
        due.holds("there are methods", methods > 34);
    }
}
