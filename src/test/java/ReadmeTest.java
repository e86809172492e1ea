import java.io.ByteArrayOutputStream;
import java.io.IOException;
import java.io.PrintStream;
import java.lang.reflect.Method;
import java.lang.reflect.Modifier;
import java.net.URL;
import java.net.URLClassLoader;
import java.nio.charset.StandardCharsets;
import java.nio.file.Files;
import java.nio.file.Path;
import java.util.ArrayList;
import java.util.List;
import java.util.regex.Matcher;
import java.util.regex.Pattern;
import javax.tools.JavaCompiler;
import javax.tools.ToolProvider;

/**
 * README.md, as it stands in the folder where this is run: each call that it shows answers what it says
 * behind it, its whole program prints what it says, and it leaves out no call of the face and no test.
 */
public final class ReadmeTest {
    private static final Checks CHECKS = new Checks("ReadmeTest");
    private static final Path README = Path.of("README.md");
    private static final Path TESTS = Path.of("src", "test", "java");
    private static final Path BUILD = Path.of("build");
    // An object is used for at most 512 calls; put() needs 40 at most, as the tape has 800 bytes.
    private static final int MAX_CALLS = 512;
    private static final int CALLS_OF_PUT = 40;

    private static final Pattern BLOCK = Pattern.compile("(?ms)^```(\\w+)\\n(.*?)^```$");
    private static final Pattern PROGRAM = Pattern.compile("public final class (\\w+) \\{");
    private static final Pattern NEW_OBJECT = Pattern.compile("StickVotes \\w+ = new StickVotes\\(\\);");
    private static final Pattern PUT = Pattern.compile("\\w+\\.put\\(.*\\);");
    private static final Pattern CALL = Pattern.compile("(\\w+\\.(\\w+)\\(.*\\)); +// ([^:]+)(: .*)?");
    private static final Pattern TABLE_CALL = Pattern.compile("(?m)^\\| `(\\w+)\\(([^)]*)\\)` \\|");

    /** A part of README.md that stands between fences. */
    private record Block(String kind, String text) {
    }

    /** A call that README.md shows, and what it answers by its word. */
    private record Example(String call, String name, String answer) {
    }

    private ReadmeTest() {
    }

    public static void main(String[] args) throws IOException, ReflectiveOperationException {
        String readme = Files.readString(README);
        List<Block> blocks = blocksOf(readme);
        Block program = programAmong(blocks);
        List<String> lines = exampleLines(blocks);
        List<Example> examples = examplesIn(lines);
        // A folder of its own, so that two runs at once do not write into one another's.
        Path folder = Files.createTempDirectory(Files.createDirectories(BUILD), "readme");
        compile(folder, program, lines);
        try (URLClassLoader made = new URLClassLoader(new URL[] {folder.toUri().toURL()})) {
            programPrints(made, program, blocks);
            callsAnswer(made, examples);
            textsAreShown(made, examples, blocks);
        }
        delete(folder);
        everyCallIsThere(readme, examples);
        everyTestIsThere(readme);
        CHECKS.end();
    }

    private static List<Block> blocksOf(String readme) {
        List<Block> blocks = new ArrayList<>();
        Matcher block = BLOCK.matcher(readme);
        while (block.find()) blocks.add(new Block(block.group(1), block.group(2)));
        return blocks;
    }

    private static boolean isProgram(Block block) {
        return block.kind().equals("java") && PROGRAM.matcher(block.text()).find();
    }

    private static Block programAmong(List<Block> blocks) {
        List<Block> programs = blocks.stream().filter(ReadmeTest::isProgram).toList();
        if (programs.size() != 1) throw new IllegalStateException("programs in README.md: " + programs.size());
        return programs.get(0);
    }

    private static String nameOf(Block program) {
        Matcher name = PROGRAM.matcher(program.text());
        if (!name.find()) throw new IllegalStateException("a program without a class");
        return name.group(1);
    }

    private static List<String> exampleLines(List<Block> blocks) {
        List<String> lines = new ArrayList<>();
        for (Block block : blocks) {
            if (block.kind().equals("java") && !isProgram(block)) lines.addAll(block.text().lines().toList());
        }
        return lines;
    }

    /** The calls among the lines; a line that is neither a call with its answer nor makes an object fails. */
    private static List<Example> examplesIn(List<String> lines) {
        List<Example> examples = new ArrayList<>();
        for (String line : lines) {
            Matcher call = CALL.matcher(line);
            if (call.matches()) {
                examples.add(new Example(call.group(1), call.group(2), valueOf(call.group(3))));
            } else if (!NEW_OBJECT.matcher(line).matches() && !PUT.matcher(line).matches()) {
                CHECKS.is("the line \"" + line + "\"", "without an answer", "a call with its answer");
            }
        }
        return examples;
    }

    private static String valueOf(String answer) {
        return switch (answer) {
            case "INVALID" -> "-1";
            case "NOT_FOUND" -> "-2";
            case "AT_SEA" -> "-3";
            case "NOT_THERE" -> "-4";
            case "TOO_LATE" -> "-5";
            default -> answer;
        };
    }

    /** Compiles the program, and a class that makes all calls in their order and tells their answers. */
    private static void compile(Path folder, Block program, List<String> lines) throws IOException {
        StringBuilder calls = new StringBuilder("public final class ReadmeCalls {\n"
            + "public static StickVotes run(java.util.List<Object> answers) {\n");
        for (String line : lines) {
            Matcher call = CALL.matcher(line);
            calls.append(call.matches() ? "answers.add(" + call.group(1) + ");" : line).append('\n');
        }
        calls.append("return village;\n}\n}\n");
        Path first = Files.writeString(folder.resolve(nameOf(program) + ".java"), program.text());
        Path second = Files.writeString(folder.resolve("ReadmeCalls.java"), calls.toString());
        JavaCompiler compiler = ToolProvider.getSystemJavaCompiler();
        if (compiler == null) throw new IllegalStateException("a JDK is needed, not a runtime alone");
        int result = compiler.run(null, null, null, "-Xlint:all", "-Werror", "-d", folder.toString(),
            "-cp", System.getProperty("java.class.path"), first.toString(), second.toString());
        if (result != 0) throw new IllegalStateException("what README.md shows does not compile");
    }

    private static void delete(Path folder) throws IOException {
        try (var files = Files.newDirectoryStream(folder)) {
            for (Path file : files) Files.delete(file);
        }
        Files.delete(folder);
    }

    /** The block behind the program and its command is what it prints. */
    private static void programPrints(ClassLoader made, Block program, List<Block> blocks)
            throws ReflectiveOperationException {
        int at = blocks.indexOf(program);
        CHECKS.is("the kind of block behind the program", blocks.get(at + 1).kind(), "sh");
        CHECKS.is("what the program prints", printedBy(made, nameOf(program)), blocks.get(at + 2).text());
    }

    private static String printedBy(ClassLoader made, String name) throws ReflectiveOperationException {
        ByteArrayOutputStream printed = new ByteArrayOutputStream();
        PrintStream usual = System.out;
        System.setOut(new PrintStream(printed, true, StandardCharsets.UTF_8));
        try {
            made.loadClass(name).getMethod("main", String[].class).invoke(null, (Object) new String[0]);
        } finally {
            System.setOut(usual);
        }
        return printed.toString(StandardCharsets.UTF_8).replace("\r\n", "\n");
    }

    private static void callsAnswer(ClassLoader made, List<Example> examples)
            throws ReflectiveOperationException {
        List<Object> answers = new ArrayList<>();
        villageBehindTheCalls(made, answers);
        CHECKS.is("answers", answers.size(), examples.size());
        for (int i = 0; i < answers.size() && i < examples.size(); i++) {
            CHECKS.is(examples.get(i).call(), String.valueOf(answers.get(i)), examples.get(i).answer());
        }
    }

    private static StickVotes villageBehindTheCalls(ClassLoader made, List<Object> answers)
            throws ReflectiveOperationException {
        Method run = made.loadClass("ReadmeCalls").getMethod("run", List.class);
        return (StickVotes) run.invoke(null, answers);
    }

    /** Each text is read from a village of its own: a byte is a call. */
    private static void textsAreShown(ClassLoader made, List<Example> examples, List<Block> blocks)
            throws ReflectiveOperationException {
        String view = Villages.view(villageBehindTheCalls(made, new ArrayList<>()));
        String story = Villages.story(villageBehindTheCalls(made, new ArrayList<>()));
        String setup = Villages.setup(villageBehindTheCalls(made, new ArrayList<>()));
        CHECKS.is("the view is shown", isShown(view, blocks), true);
        CHECKS.is("the story is shown", isShown(story, blocks), true);
        CHECKS.is("the setup text is shown", isShown(setup + "\n", blocks), true);
        int longest = Math.max(Math.max(view.length(), story.length()), setup.length()) + 1;
        int calls = examples.size() + CALLS_OF_PUT + longest;
        CHECKS.is(calls + " calls are no more than 512", calls <= MAX_CALLS, true);
    }

    private static boolean isShown(String text, List<Block> blocks) {
        return blocks.contains(new Block("text", text));
    }

    /** Each call of the face has a row in a table, with its arguments, and an example. */
    private static void everyCallIsThere(String readme, List<Example> examples) {
        List<String> rows = new ArrayList<>();
        Matcher row = TABLE_CALL.matcher(readme);
        while (row.find()) rows.add(row.group(1) + " " + (row.group(2).isEmpty() ? 0 : row.group(2).split(",").length));
        int calls = 0;
        for (Method call : StickVotes.class.getDeclaredMethods()) {
            if (!Modifier.isPublic(call.getModifiers())) continue;
            String name = call.getName();
            calls++;
            CHECKS.is("a row of " + name, rows.contains(name + " " + call.getParameterCount()), true);
            CHECKS.is("an example of " + name, examples.stream().anyMatch(e -> e.name().equals(name)), true);
        }
        CHECKS.is("rows of calls", rows.size(), calls);
    }

    private static void everyTestIsThere(String readme) throws IOException {
        try (var files = Files.newDirectoryStream(TESTS, "*Test.java")) {
            for (Path file : files) {
                String test = file.getFileName().toString().replace(".java", "");
                CHECKS.is("a row of " + test, readme.contains("| " + test + " |"), true);
            }
        }
    }
}
