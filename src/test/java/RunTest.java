import java.io.IOException;
import java.nio.file.Files;
import java.nio.file.Path;
import java.util.ArrayList;
import java.util.List;

/**
 * The way in which README.md says that the tests are run, tried in small projects: it runs the
 * tests of the project and of ../shared, and fails if one of them fails.
 */
public final class RunTest {
    private static final Path SCRIPT = Path.of(".ci/run");
    private static final String PROGRAM = "src/main/java/BookingRows.java";
    private static final String OWN = "src/test/java/OwnTest.java";
    private static final String OTHER = "src/test/java/OtherTest.java";
    private static final String HELPER = "src/test/java/Helper.java";
    private static final String SHARED = "../shared/tests/SharedRuns.java";
    private static final String OTHER_SHARED = "../shared/tests/OtherRuns.java";

    private static final String NO_TESTS =
            "no tests found under ../shared/tests or src/test/java";

    private static final Due due = new Due();

    /** A small project with its run, and the line that is due as the last one. */
    private record Try(String name, Path folder, Process run, String lastLine) { }

    private final Path all;
    private final String command;
    private final List<Try> tries = new ArrayList<>();

    private RunTest(Path all, String command) {
        this.all = all;
        this.command = command;
    }

    public static void main(String[] args) throws Exception {
        due.promise("the run that README.md tells");
        List<String> commands = Readme.linesIn("sh");
        due.is("it is one command", 1, commands.size());
        due.is("it is the script that CI runs", true, commands.contains(SCRIPT.toString()));
        due.is("which can be run", true, Files.isExecutable(SCRIPT));
        Path all = Files.createTempDirectory("runs");
        RunTest test = new RunTest(all, commands.get(0));
        test.startAll();
        test.lookAtAll();
        Folders.remove(all);
        due.end();
    }

    private void startAll() throws IOException {
        start("all pass", "4 passed, 0 failed");
        start("more pass", "6 passed, 0 failed", OTHER, exits("OtherTest", 0),
                OTHER_SHARED, exits("OtherRuns", 0));
        start("what is no test is not run", "4 passed, 0 failed", HELPER, exits("Helper", 1));
        start("the first own test fails", "4 passed, 1 failed", OWN, exits("OwnTest", 1),
                OTHER, exits("OtherTest", 0));
        start("another own test fails", "4 passed, 1 failed", OTHER, exits("OtherTest", 1));
        start("the first shared test fails", "4 passed, 1 failed", SHARED, exits("SharedRuns", 1),
                OTHER_SHARED, exits("OtherRuns", 0));
        start("another shared test fails", "4 passed, 1 failed",
                OTHER_SHARED, exits("OtherRuns", 1));
        start("a test throws", "3 passed, 1 failed",
                OWN, main("OwnTest", "throw new RuntimeException();"));
        start("an own test does not compile", "2 passed, 2 failed", OWN, main("OwnTest", "no();"));
        start("a shared test does not compile", "3 passed, 1 failed",
                SHARED, main("SharedRuns", "no();"));
        start("the program does not compile", "0 passed, 4 failed", PROGRAM, "class BookingRows {");
        start("there is no program", "0 passed, 4 failed", PROGRAM, "");
        start("there is no own test", NO_TESTS, OWN, "");
        start("there is no shared test", NO_TESTS, SHARED, "");
    }

    private static String exits(String name, int code) {
        return main(name, "System.exit(" + code + ");");
    }

    private static String main(String name, String body) {
        return "public final class " + name + " {\n    public static void main(String[] args) {\n"
                + "        new BookingRows();\n        " + body + "\n    }\n}\n";
    }

    /** A project in which all passes, but for these files, each with its text; none if empty. */
    private void start(String name, String lastLine, String... filesAndTexts) throws IOException {
        Path folder = all.resolve(tries.size() + "/main");
        Folders.write(folder.resolve(PROGRAM), "public final class BookingRows { }\n");
        Folders.write(folder.resolve(OWN), exits("OwnTest", 0));
        Folders.write(folder.resolve(SHARED).normalize(), exits("SharedRuns", 0));
        for (int i = 0; i + 1 < filesAndTexts.length; i += 2) {
            Path file = folder.resolve(filesAndTexts[i]).normalize();
            Folders.write(file, filesAndTexts[i + 1]);
            if (filesAndTexts[i + 1].isEmpty()) {
                Files.delete(file);
            }
        }
        Path script = folder.resolve(SCRIPT);
        Files.createDirectories(script.getParent());
        Files.copy(SCRIPT, script);
        due.is("the script can be run", true, script.toFile().setExecutable(true));
        Process run = new ProcessBuilder("sh", "-c", command).directory(folder.toFile())
                .redirectErrorStream(true).redirectOutput(outputOf(folder).toFile()).start();
        tries.add(new Try(name, folder, run, lastLine));
    }

    private static Path outputOf(Path folder) {
        return folder.resolveSibling("output");
    }

    private void lookAtAll() throws IOException, InterruptedException {
        for (Try one : tries) {
            boolean hasPassed = one.run.waitFor() == 0;
            due.is(one.name + ": it passes", one.lastLine.endsWith(" 0 failed"), hasPassed);
            List<String> output = Files.readAllLines(outputOf(one.folder));
            String last = output.isEmpty() ? "" : output.get(output.size() - 1);
            due.is(one.name + ": it ends with '" + last + "', not with '" + one.lastLine + "'",
                    true, last.equals(one.lastLine));
        }
    }
}
