import java.io.IOException;
import java.nio.file.Files;
import java.nio.file.Path;
import java.util.TreeSet;
import java.util.regex.Matcher;
import java.util.regex.Pattern;

/** Those rules of LANGUAGE.md that a text search over the source can see. */
public final class LanguageTest {
    private static final String[] NOT_THERE = {
        "\\b(throw|throws|try|catch|synchronized|assert|import|package|native|volatile)\\b",
        "->", "::", "\\bsuper\\b", "\\bnew \\w+\\([^)]*\\) *\\{", "\\bObject\\b", "\\bSystem\\b",
        "\\bThread\\b", "\\bRandom\\b", "Exact\\(", "\\bequals\\(", "\\bhashCode\\(",
        "\\btoString\\(", "static *\\{", "\\bnull\\b",
    };
    private static final int MOST_LINES_OF_A_METHOD = 60;
    private static final int MOST_PARAMETERS = 7;
    private static final Pattern METHOD_HEAD =
            Pattern.compile("^( +)[\\w\\[\\] ]*\\b(\\w+)\\(([^)]*)\\) \\{$");

    private static final Due due = new Due();

    public static void main(String[] args) throws IOException {
        due.promise("the language");
        String source = Files.readString(Path.of("src/main/java/BookingRows.java"));
        due.is("texts hold characters 0 to 255 alone", true,
                source.chars().allMatch(c -> c <= 255));
        String code = source.replaceAll("(?s)/\\*.*?\\*/", "").replaceAll("//[^\n]*", "");
        for (String pattern : NOT_THERE) {
            Matcher found = Pattern.compile(pattern).matcher(code);
            due.is(pattern + " is there", false, found.find());
        }
        ownClassesAlone(code);
        methods(code.split("\n"));
        due.end();
    }

    /** No class of the library is used, so none is that the rules do not list. */
    private static void ownClassesAlone(String code) {
        TreeSet<String> own = new TreeSet<>();
        Matcher declared = Pattern.compile("\\bclass (\\w+)").matcher(code);
        while (declared.find()) {
            own.add(declared.group(1));
        }
        Matcher used = Pattern.compile("\\b[A-Z]\\w*[a-z]\\w*").matcher(code);
        while (used.find()) {
            due.is(used.group() + " is an own class", true, own.contains(used.group()));
        }
    }

    private static void methods(String[] lines) {
        int methods = 0;
        for (int i = 0; i < lines.length; i++) {
            Matcher head = METHOD_HEAD.matcher(lines[i]);
            if (head.find() && !head.group(2).matches("if|for|while|switch")) {
                methods++;
                due.is(head.group(2) + " is short", true,
                        linesTo(lines, i, head.group(1) + "}") <= MOST_LINES_OF_A_METHOD);
                due.is(head.group(2) + " has few parameters", true,
                        head.group(3).split(",").length <= MOST_PARAMETERS);
            }
        }
        due.is("methods were found", true, methods > 16);
    }

    private static int linesTo(String[] lines, int first, String end) {
        int last = first;
        while (last < lines.length && !lines[last].equals(end)) {
            last++;
        }
        return last - first + 1;
    }
}
