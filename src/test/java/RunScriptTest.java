import java.io.IOException;
import java.nio.file.Files;
import java.nio.file.Path;
import java.util.Comparator;
import java.util.stream.Stream;

/**
 * Tries .ci/run on small projects of its own. The issue asks: "What .ci/run must test: as before, every test under
 * ../shared/tests and every test of the project's own".
 */
public final class RunScriptTest {
    private static final String CLASS = "src/main/java/GrammarWorks.java";
    private static final Path SCRIPT = Path.of(".ci/run");

    private final Path room;
    private final Path project;

    private RunScriptTest(Path room) throws IOException {
        this.room = room;
        this.project = room.resolve("main");
        write("main/" + CLASS, Files.readString(Path.of(CLASS)));
        write("main/.ci/run", Files.readString(SCRIPT));
    }

    public static void main(String[] args) throws IOException, InterruptedException {
        Check.holds(Files.isExecutable(SCRIPT), ".ci/run is executable");
        Path room = Files.createTempDirectory("runscript");
        try {
            RunScriptTest test = new RunScriptTest(room);
            test.aPlaceWithoutTestsFails();
            test.aWrongTestFails();
            test.quotesWithoutADocumentFail();
        } finally {
            delete(room);
        }
        Check.end();
    }

    /** "every test under ../shared/tests and every test of the project's own": finding none is no way to pass. */
    private void aPlaceWithoutTestsFails() throws IOException, InterruptedException {
        writeTest("main/src/test/java/OwnTest.java", 0);
        Check.answers(1, runScript(), "no ../shared/tests");
        writeTest("shared/tests/Given.java", 0);
        Check.answers(0, runScript(), "a test in each place");
        Files.delete(project.resolve("src/test/java/OwnTest.java"));
        Check.answers(1, runScript(), "no test of the project's own");
    }

    /** "every test": one that fails, or does not compile, also below ../shared/tests. */
    private void aWrongTestFails() throws IOException, InterruptedException {
        writeTest("main/src/test/java/OwnTest.java", 1);
        Check.answers(1, runScript(), "an own test fails");
        writeTest("main/src/test/java/OwnTest.java", 0);
        writeTest("shared/tests/Given.java", 1);
        Check.answers(1, runScript(), "a shared test fails");
        write("shared/tests/Given.java", "no class");
        Check.answers(1, runScript(), "a shared test does not compile");
        writeTest("shared/tests/Given.java", 0);
        writeTest("shared/tests/below/Deep.java", 1);
        Check.answers(1, runScript(), "a shared test further below fails");
        writeTest("shared/tests/below/Deep.java", 0);
        Check.answers(0, runScript(), "none fails any more");
    }

    /** QuotesTest can't tell that the quotes stand in the document if there is no document. */
    private void quotesWithoutADocumentFail() throws IOException, InterruptedException {
        for (String name : new String[] {"QuotesTest.java", "Check.java"}) {
            write("main/src/test/java/" + name, Files.readString(Path.of("src/test/java", name)));
        }
        Check.answers(1, runScript(), "QuotesTest without ../shared/DOC.md");
    }

    private void writeTest(String place, int exitCode) throws IOException {
        String name = Path.of(place).getFileName().toString().replace(".java", "");
        write(place, "public final class " + name + " { public static void main(String[] args) { new GrammarWorks();"
            + " System.exit(" + exitCode + "); } }");
    }

    private void write(String place, String text) throws IOException {
        Path file = room.resolve(place);
        Files.createDirectories(file.getParent());
        Files.writeString(file, text);
    }

    /** The exit code of .ci/run, as a call that answers it. */
    private Check.Call runScript() throws IOException, InterruptedException {
        ProcessBuilder builder = new ProcessBuilder("bash", project.resolve(".ci/run").toString());
        builder.redirectErrorStream(true).redirectOutput(ProcessBuilder.Redirect.DISCARD);
        int code = builder.start().waitFor();
        return () -> code;
    }

    private static void delete(Path place) throws IOException {
        try (Stream<Path> all = Files.walk(place)) {
            for (Path path : all.sorted(Comparator.reverseOrder()).toList()) {
                Files.delete(path);
            }
        }
    }
}
