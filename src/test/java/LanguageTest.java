import java.io.IOException;
import java.nio.file.Files;
import java.nio.file.Path;
import java.util.Map;
import java.util.Set;
import java.util.TreeMap;
import java.util.TreeSet;
import java.util.regex.Matcher;
import java.util.regex.Pattern;

/** Rules of LANGUAGE.md that the words of the source can show; run from the project's folder. */
public final class LanguageTest {
    private static final Checks CHECKS = new Checks("LanguageTest");
    private static final Set<String> CLASSES = Set.of("Math", "Integer", "System", "State");
    private static final Set<String> EXCEPTIONS = Set.of("IllegalStateException",
        "IllegalArgumentException", "IndexOutOfBoundsException");

    private LanguageTest() {
    }

    public static void main(String[] args) throws IOException {
        String source = Files.readString(Path.of("src/main/java/BillArchive.java"));
        String code = source.replaceAll("(?s)/\\*.*?\\*/", "").replaceAll("//[^\n]*", "");
        String bare = code.replaceAll("\"[^\"\n]*\"", "\"\"");
        plainSigns(source);
        absentWords(bare);
        calledClasses(bare);
        thrown(code);
        lengths(source);
        depth(bare);
        CHECKS.end();
    }

    private static void plainSigns(String source) {
        CHECKS.isTrue("signs 10 and 32 to 126 alone", source.chars().allMatch(c -> c == '\n' || c >= 32 && c < 127));
    }

    private static void absentWords(String bare) {
        String[] words = {"->", "::", "\\bimport\\b", "\\bpackage\\b", "\\bsynchronized\\b", "\\bassert\\b",
            "\\btry\\b", "\\bcatch\\b", "\\bfinally\\b", "\\bstatic\\s*\\{", "\\bvar\\b", "\\brecord\\b",
            "\"\"\\s*\\+", "\\+\\s*\"\"", "\\w+Exact\\b", "\\bjava\\.", "\\bequals\\b", "\\bhashCode\\b", "\\bprotected\\b",
            "\\bdouble\\b", "\\bfloat\\b", "\\binstanceof\\b", "\\bObject\\b"};
        for (String word : words) {
            CHECKS.isTrue("the source holds " + word, !Pattern.compile(word).matcher(bare).find());
        }
    }

    private static void calledClasses(String bare) {
        Matcher used = Pattern.compile("\\b([A-Z][a-z]\\w*)\\.").matcher(bare);
        while (used.find()) {
            CHECKS.isTrue("calls of " + used.group(1), CLASSES.contains(used.group(1)));
        }
    }

    private static void thrown(String code) {
        int all = 0;
        Matcher any = Pattern.compile("\\bthrow\\b").matcher(code);
        while (any.find()) {
            all++;
        }
        int right = 0;
        Matcher one = Pattern.compile("throw new (\\w+)\\((\"[^\"]*\")?\\);").matcher(code);
        while (one.find()) {
            right += EXCEPTIONS.contains(one.group(1)) ? 1 : 0;
        }
        CHECKS.same("throws of the allowed form", all, right);
    }

    /**
     * Rules 8 and 11: no recursion, and calls at most eight deep. Methods of one name are taken for one,
     * so that this can only tell too much.
     */
    private static void depth(String bare) {
        Map<String, Set<String>> calls = new TreeMap<>();
        Pattern head = Pattern.compile("^ {4,8}(?:(?:public|private|static|final) )*(?:[\\w\\[\\]]+ )?(\\w+)\\(.*");
        Pattern call = Pattern.compile("(\\w+)\\(");
        Set<String> body = new TreeSet<>();
        for (String line : bare.split("\n")) {
            Matcher begins = head.matcher(line);
            boolean isHead = line.matches("( {4}| {8})(public |private |static |int |boolean |long |void |String |State).*")
                && !line.contains("=") && !line.contains(" class ") && !line.contains(";") && !line.contains("return");
            if (isHead && begins.matches()) {
                body = calls.computeIfAbsent(begins.group(1), name -> new TreeSet<>());
            } else {
                Matcher called = call.matcher(line);
                while (called.find()) {
                    body.add(called.group(1));
                }
            }
        }
        CHECKS.isTrue("the methods are found: " + calls.size(), calls.size() > 100);
        for (String name : calls.keySet()) {
            int deep = depth(name, calls, 0);
            CHECKS.isTrue("calls from " + name + " go " + deep + " deep", deep <= 8);
        }
    }

    private static int depth(String name, Map<String, Set<String>> calls, int above) {
        int deepest = 0;
        for (String called : calls.getOrDefault(name, Set.of())) {
            // Deeper than all methods together can only be a recursion.
            if (calls.containsKey(called) && above < 12) {
                deepest = Math.max(deepest, depth(called, calls, above + 1));
            }
        }
        return deepest + 1;
    }

    /** A method ends where a closing bracket stands as far in as its head. */
    private static void lengths(String source) {
        String[] lines = source.split("\n");
        for (int from = 0; from < lines.length; from++) {
            CHECKS.isTrue("line " + (from + 1) + " is short", lines[from].length() <= 120);
            Matcher head = Pattern.compile("^( {4}| {8})\\w[^=;]*\\(.*\\{$|^( {4})\\w.*\\)$").matcher(lines[from]);
            if (head.find() && !lines[from].contains(" class ")) {
                String end = " ".repeat(lines[from].length() - lines[from].stripLeading().length()) + "}";
                int to = from;
                while (to < lines.length && !lines[to].equals(end)) {
                    to++;
                }
                CHECKS.isTrue("the method of line " + (from + 1) + " is short", to - from < 60);
            }
        }
    }
}
