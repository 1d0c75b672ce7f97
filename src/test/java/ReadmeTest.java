import java.io.IOException;
import java.net.URL;
import java.net.URLClassLoader;
import java.nio.file.Files;
import java.nio.file.Path;
import java.util.ArrayList;
import java.util.List;
import java.util.TreeSet;
import java.util.regex.Matcher;
import java.util.regex.Pattern;
import java.util.stream.Stream;
import javax.tools.ToolProvider;

/** What README.md shows of the class's use is so, and it shows all of it. */
public final class ReadmeTest {
    private static final String NEW_OBJECT = "BookingRows rows = new BookingRows();";
    private static final Pattern SHOWN_CALL = Pattern.compile(
            "(int (\\w+) = )?(rows\\.(\\w+)\\(.*\\));\\s+// (-?\\d+|true|false): .*");
    private static final Pattern ROW = Pattern.compile("(?m)^\\| `(\\w+\\(.*?\\))` \\|");
    private static final Pattern NAMED_TEST = Pattern.compile("(?m)^- `(\\w+Test)`: ");

    private static final Due due = new Due();

    public static void main(String[] args) throws Exception {
        shownCalls();
        tableOfCalls();
        namedTests();
        due.end();
    }

    /** The lines are compiled as they stand, each with its answer kept. */
    private static void shownCalls() throws Exception {
        due.promise("the calls that README.md shows");
        StringBuilder source = new StringBuilder();
        List<String> calls = new ArrayList<>();
        List<String> said = new ArrayList<>();
        TreeSet<String> names = new TreeSet<>();
        for (String line : Readme.linesIn("java")) {
            Matcher call = SHOWN_CALL.matcher(line);
            boolean isCall = call.matches();
            due.is("it is a new object, or a call with its answer: " + line, true,
                    isCall || line.equals(NEW_OBJECT));
            if (isCall) {
                boolean isKept = call.group(2) != null;
                source.append(isKept ? line + "\n" : "");
                source.append("a.add(\"\" + ").append(isKept ? call.group(2) : call.group(3));
                source.append(");\n");
                calls.add(call.group(3));
                said.add(call.group(5));
                names.add(call.group(4));
            } else {
                source.append(line).append("\n");
            }
        }
        compare(calls, said, answersOf(source.toString()));
        due.is("every method is shown: " + names, true, names.equals(namesOf(face())));
    }

    private static void compare(List<String> calls, List<String> said, List<?> answers) {
        due.is("all are answered", calls.size(), answers.size());
        for (int i = 0; i < Math.min(calls.size(), answers.size()); i++) {
            due.is(calls.get(i) + " is said to answer " + said.get(i) + " and answers "
                    + answers.get(i), true, said.get(i).equals(answers.get(i)));
        }
    }

    private static List<?> answersOf(String lines) throws Exception {
        Path folder = Files.createTempDirectory("readme");
        Path source = folder.resolve("Shown.java");
        Files.writeString(source, "public final class Shown {\n"
                + "public static java.util.List<String> answers() {\n"
                + "java.util.List<String> a = new java.util.ArrayList<>();\n"
                + lines + "return a;\n}\n}\n");
        int failed = ToolProvider.getSystemJavaCompiler().run(null, null, null,
                "-d", folder.toString(), "src/main/java/BookingRows.java", source.toString());
        due.is("the shown lines compile with the program", 0, failed);
        List<?> answers = failed == 0 ? answersIn(folder) : List.of();
        Folders.remove(folder);
        return answers;
    }

    private static List<?> answersIn(Path folder) throws Exception {
        URL[] classes = {folder.toUri().toURL()};
        try (URLClassLoader loader = new URLClassLoader(classes, null)) {
            return (List<?>) loader.loadClass("Shown").getMethod("answers").invoke(null);
        }
    }

    /** The methods of the document as the table writes them: without types. */
    private static TreeSet<String> face() throws IOException {
        TreeSet<String> calls = new TreeSet<>();
        for (String member : Document.face()) {
            Matcher method = Pattern.compile("public (int|boolean) (\\w+\\(.*\\))").matcher(member);
            if (method.matches()) {
                calls.add(method.group(2).replaceAll("\\bint ", ""));
            }
        }
        return calls;
    }

    private static TreeSet<String> namesOf(TreeSet<String> calls) {
        TreeSet<String> names = new TreeSet<>();
        calls.forEach(call -> names.add(call.substring(0, call.indexOf('('))));
        return names;
    }

    private static void tableOfCalls() throws IOException {
        due.promise("the table of calls in README.md");
        TreeSet<String> calls = new TreeSet<>();
        Matcher row = ROW.matcher(Readme.text());
        while (row.find()) {
            due.is(row.group(1) + " stands there once", true, calls.add(row.group(1)));
        }
        due.is("it has those of the document: " + calls, true, calls.equals(face()));
    }

    private static void namedTests() throws IOException {
        due.promise("the tests that README.md names");
        TreeSet<String> named = new TreeSet<>();
        Matcher test = NAMED_TEST.matcher(Readme.text());
        while (test.find()) {
            named.add(test.group(1) + ".java");
        }
        TreeSet<String> there = new TreeSet<>();
        try (Stream<Path> files = Files.list(Path.of("src/test/java"))) {
            files.map(file -> file.getFileName().toString())
                    .filter(name -> name.endsWith("Test.java")).forEach(there::add);
        }
        due.is("named are " + named + ", there are " + there, true, named.equals(there));
    }
}
