import java.io.ByteArrayOutputStream;
import java.io.IOException;
import java.io.PrintStream;
import java.lang.reflect.Method;
import java.lang.reflect.Modifier;
import java.net.URL;
import java.net.URLClassLoader;
import java.nio.charset.StandardCharsets;
import java.nio.file.Files;
import java.nio.file.Path;
import java.util.ArrayList;
import java.util.Comparator;
import java.util.List;
import java.util.regex.Matcher;
import java.util.regex.Pattern;
import java.util.stream.Stream;
import javax.tools.ToolProvider;

/**
 * Holds README.md against the project. The issue asks: "what it says has to be so as the project stands (its example
 * compiles and answers what is written beside it)".
 */
public final class ReadmeTest {
    private static final Path README = Path.of("README.md");
    private static final String EXAMPLE = "Sums";
    /** A line of the example: what is declared, if anything, the call, and the answer beside it. */
    private static final Pattern ANSWERED =
        Pattern.compile("\\s*(int (\\w+) = )?(works\\.\\w+\\(.*\\));\\s+// (-?\\d+): .*");

    private final String text;
    private final Path room;

    private ReadmeTest(String text, Path room) {
        this.text = text;
        this.room = room;
    }

    public static void main(String[] args) throws IOException, ReflectiveOperationException {
        Path room = Files.createTempDirectory("readme");
        try {
            ReadmeTest test = new ReadmeTest(Files.readString(README), room);
            test.exampleAnswersWhatIsBesideIt();
            test.exampleRunsAndPrints();
            test.commandsCompileWhatTheyRun();
            test.namedFilesAreThere();
            test.everyCallIsNamed();
        } finally {
            delete(room);
        }
        Check.end();
    }

    /** "its example compiles and answers what is written beside it" */
    private void exampleAnswersWhatIsBesideIt() throws IOException, ReflectiveOperationException {
        List<String> lines = new ArrayList<>();
        List<String> calls = new ArrayList<>();
        List<Long> due = new ArrayList<>();
        for (String line : example().split("\n")) {
            Matcher answered = ANSWERED.matcher(line);
            if (answered.matches()) {
                String name = answered.group(2);
                lines.add(name == null ? "" : answered.group(1) + answered.group(3) + ";");
                lines.add("told.add((long) " + (name == null ? answered.group(3) : name) + ");");
                calls.add(answered.group(3));
                due.add(Long.valueOf(answered.group(4)));
            } else {
                boolean silent = line.contains("new GrammarWorks()") || line.contains("System.out");
                Check.holds(silent || !line.contains("works."), "an answer stands beside: " + line);
                lines.add(line);
            }
        }
        String program = String.join("\n", lines).replace("GrammarWorks works",
            "told.clear(); GrammarWorks works").replaceFirst("\\{",
            "{ public static final java.util.List<Long> told = new java.util.ArrayList<>();");
        Class<?> example = load(program, room.resolve("told"));
        runQuietly(example);
        List<?> told = (List<?>) example.getField("told").get(null);
        Check.answers(due.size(), told::size, "answers of the example");
        Check.holds(due.size() >= 10, "the example has answers beside its calls");
        for (int k = 0; k < Math.min(due.size(), told.size()); k++) {
            Check.compare(due.get(k).toString(), told.get(k).toString(), "README: " + calls.get(k));
        }
    }

    private void exampleRunsAndPrints() throws IOException, ReflectiveOperationException {
        Class<?> example = load(example(), room.resolve("plain"));
        Matcher prints = Pattern.compile("prints (\\S+), by").matcher(text);
        Check.holds(prints.find(), "the page says what the example prints");
        Check.compare(prints.group(1), runQuietly(example).trim(), "the example prints");
    }

    /** Each class that a command runs has been compiled by a command of the same block, which succeeds. */
    private void commandsCompileWhatTheyRun() throws IOException {
        List<String> blocks = blocks("sh");
        Check.holds(blocks.size() >= 3, "there are commands");
        for (String block : blocks) {
            Path out = Files.createTempDirectory(room, "out");
            for (String command : block.split("\n")) {
                String[] words = command.trim().split("\\s+");
                if (words[0].equals("javac")) {
                    Check.answers(0, () -> compile(out, words), command);
                } else {
                    Check.compare("java -cp", words[0] + " " + words[1], command);
                    Check.holds(block.contains("-d " + words[2] + " "), "compiled into the same place: " + command);
                    Check.holds(Files.exists(out.resolve(words[3] + ".class")), "compiled before it is run: " + command);
                }
            }
        }
    }

    private void namedFilesAreThere() throws IOException {
        Matcher name = Pattern.compile("`([\\w./]+)`").matcher(text);
        while (name.find()) {
            String word = name.group(1);
            boolean isFile = word.contains("/") || word.endsWith(".java") || word.matches("[A-Z]\\w+");
            if (isFile && !word.equals(EXAMPLE + ".java") && !word.matches("(Boundary)?Test(\\.java)?")) {
                String file = word.endsWith(".java") ? word : word + ".java";
                boolean there = Files.exists(Path.of(word)) || Files.exists(Path.of("src/test/java", file));
                Check.holds(there, "there is " + word);
            }
        }
    }

    /** "how to use the class": no call of the face is left out. */
    private void everyCallIsNamed() {
        for (Method method : GrammarWorks.class.getDeclaredMethods()) {
            if (Modifier.isPublic(method.getModifiers())) {
                Check.holds(text.contains("`" + method.getName() + "`") || text.contains("." + method.getName() + "("),
                    "the page names " + method.getName());
            }
        }
    }

    private String example() {
        List<String> blocks = blocks("java");
        Check.answers(1, blocks::size, "one example");
        return blocks.get(0);
    }

    private List<String> blocks(String language) {
        List<String> blocks = new ArrayList<>();
        Matcher block = Pattern.compile("(?s)```" + language + "\n(.*?)```").matcher(text);
        while (block.find()) {
            blocks.add(block.group(1));
        }
        return blocks;
    }

    private static Class<?> load(String program, Path out) throws IOException, ReflectiveOperationException {
        Files.createDirectories(out);
        Path file = Files.writeString(out.resolve(EXAMPLE + ".java"), program);
        String path = System.getProperty("java.class.path");
        Check.answers(0, () -> javac("-d", out.toString(), "-cp", path, file.toString()), "the example compiles");
        URL[] places = {out.toUri().toURL()};
        return new URLClassLoader(places, ReadmeTest.class.getClassLoader()).loadClass(EXAMPLE);
    }

    /** Runs the example, and answers what it prints. */
    private static String runQuietly(Class<?> example) throws ReflectiveOperationException {
        PrintStream screen = System.out;
        ByteArrayOutputStream printed = new ByteArrayOutputStream();
        System.setOut(new PrintStream(printed, true, StandardCharsets.UTF_8));
        try {
            example.getMethod("main", String[].class).invoke(null, (Object) new String[0]);
        } finally {
            System.setOut(screen);
        }
        return printed.toString(StandardCharsets.UTF_8);
    }

    /** Runs a command for javac, but into a place of the test's own, and with the example taken from the page. */
    private int compile(Path out, String[] words) {
        List<String> arguments = new ArrayList<>();
        for (int k = 1; k < words.length; k++) {
            boolean isPlace = words[k - 1].equals("-d");
            boolean isExample = words[k].equals(EXAMPLE + ".java");
            String example = room.resolve("plain").resolve(words[k]).toString();
            arguments.add(isPlace ? out.toString() : isExample ? example : words[k]);
        }
        return javac(arguments.toArray(new String[0]));
    }

    private static int javac(String... arguments) {
        return ToolProvider.getSystemJavaCompiler().run(null, null, null, arguments);
    }

    private static void delete(Path place) throws IOException {
        try (Stream<Path> all = Files.walk(place)) {
            for (Path path : all.sorted(Comparator.reverseOrder()).toList()) {
                Files.delete(path);
            }
        }
    }
}
