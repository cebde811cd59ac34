import java.io.ByteArrayOutputStream;
import java.io.IOException;
import java.io.PrintStream;
import java.lang.reflect.Method;
import java.lang.reflect.Modifier;
import java.net.URL;
import java.net.URLClassLoader;
import java.nio.charset.StandardCharsets;
import java.nio.file.Files;
import java.nio.file.Path;
import java.util.ArrayList;
import java.util.List;
import java.util.Map;
import java.util.Set;
import java.util.TreeMap;
import java.util.TreeSet;
import java.util.regex.Matcher;
import java.util.regex.Pattern;
import java.util.stream.Stream;
import javax.tools.ToolProvider;

/** README.md is right: what it shows answers what it says, it shows every call, and it names every test. */
public final class ReadmeTest {
    private static final Path TESTS = Path.of("src/test/java");
    /** A statement and, behind it, what it answers. */
    private static final Pattern ANSWERED = Pattern.compile("((?:int (\\w+) = )?(.*)); +// (.*)");
    private static final Pattern ROW = Pattern.compile("\\| (\\w+ [^|]*?) +\\| (\\w+)\\((\\d+)(?:, (\\d+))?\\) +\\|");

    /** Lines between two fences, and the number of the line behind the first fence. */
    private record Block(String language, int start, List<String> lines) {
        boolean isProgram() {
            return lines.get(0).startsWith("public final class ");
        }

        String text() {
            return String.join("\n", lines) + "\n";
        }
    }

    private final List<String> page;
    private final List<Block> blocks = new ArrayList<>();

    private ReadmeTest(List<String> page) {
        this.page = page;
    }

    public static void main(String[] args) throws Exception {
        ReadmeTest test = new ReadmeTest(Files.readAllLines(Path.of("README.md")));
        test.findBlocks();
        Path directory = Files.createTempDirectory("readme");
        try {
            test.programPrintsWhatIsShown(directory);
            test.examplesAnswerWhatIsShown(directory);
        } finally {
            remove(directory);
        }
        test.commandsAreTheCallsBesideThem();
        test.everyCallIsShown();
        test.everyTestIsNamed();
        Check.finish();
    }

    private void findBlocks() {
        Block open = null;
        for (int i = 0; i < page.size(); i++) {
            String line = page.get(i);
            if (!line.startsWith("```")) {
                if (open != null) {
                    open.lines().add(line);
                }
            } else if (open == null) {
                open = new Block(line.substring(3), i + 1, new ArrayList<>());
            } else {
                blocks.add(open);
                open = null;
            }
        }
        Check.yes("README.md has examples", examples().size() >= 8);
    }

    private List<Block> examples() {
        return blocks.stream().filter(b -> b.language().equals("java") && !b.isProgram()).toList();
    }

    private void programPrintsWhatIsShown(Path directory) throws Exception {
        Block program = blocks.get(0);
        Block shown = blocks.get(1);
        Check.yes("a program comes first", program.language().equals("java") && program.isProgram());
        Check.yes("what it prints comes next", shown.language().equals("text"));
        PrintStream before = System.out;
        ByteArrayOutputStream printed = new ByteArrayOutputStream();
        System.setOut(new PrintStream(printed, true, StandardCharsets.UTF_8));
        try {
            invoke(directory, "Journey", program.text(), "main", (Object) new String[0]);
        } finally {
            System.setOut(before);
        }
        String lines = String.join("\n", printed.toString(StandardCharsets.UTF_8).lines().toList()) + "\n";
        Check.same("what Journey prints", lines, shown.text());
    }

    /** Compiles all examples as one class that keeps what each line answered. */
    private void examplesAnswerWhatIsShown(Path directory) throws Exception {
        StringBuilder source = new StringBuilder("public final class Examples {\n");
        StringBuilder calls = new StringBuilder();
        Map<Integer, String> due = new TreeMap<>();
        for (Block block : examples()) {
            source.append("static void from").append(block.start())
                    .append("(java.util.Map<Integer, String> answers) {\n");
            for (int i = 0; i < block.lines().size(); i++) {
                int number = block.start() + i + 1;
                Matcher line = ANSWERED.matcher(block.lines().get(i).strip());
                if (line.matches()) {
                    due.put(number, dueAnswer(line.group(4)));
                    source.append(kept(line, number));
                } else {
                    source.append(block.lines().get(i)).append('\n');
                }
            }
            source.append("}\n");
            calls.append("from").append(block.start()).append("(answers);\n");
        }
        source.append("public static void run(java.util.Map<Integer, String> answers) {\n");
        source.append(calls).append("}\n}\n");
        Map<Integer, String> answers = new TreeMap<>();
        invoke(directory, "Examples", source.toString(), "run", answers);
        for (Map.Entry<Integer, String> entry : due.entrySet()) {
            int number = entry.getKey();
            String what = "README.md, line " + number + ": " + page.get(number - 1).replaceAll(" +", " ");
            Check.same(what, answers.getOrDefault(number, "nothing"), entry.getValue());
        }
        Check.yes("answers are shown", due.size() > 100);
    }

    /** The answer ends at the first comma; words may follow. */
    private static String dueAnswer(String comment) {
        String answer = comment.split(",")[0];
        return answer.startsWith("'") ? answer.substring(1, 2) : answer;
    }

    private static String kept(Matcher line, int number) {
        String put = "answers.put(" + number + ", ";
        if (line.group(2) != null) {
            return line.group(1) + ";\n" + put + "String.valueOf(" + line.group(2) + "));\n";
        }
        return "try {\n" + put + "String.valueOf(" + line.group(3) + "));\n} catch (RuntimeException e) {\n" + put
                + "\"throws \" + e.getClass().getSimpleName());\n}\n";
    }

    private static void invoke(Path directory, String name, String source, String method, Object argument)
            throws Exception {
        Path file = directory.resolve(name + ".java");
        Files.writeString(file, source);
        int exit = ToolProvider.getSystemJavaCompiler().run(null, null, null, "-encoding", "UTF-8", "-cp",
                System.getProperty("java.class.path"), "-d", directory.toString(), file.toString());
        Check.same(name + " compiles with exit code", exit, 0);
        if (exit != 0) {
            return;
        }
        URL[] places = {directory.toUri().toURL()};
        try (URLClassLoader loader = new URLClassLoader(places, ReadmeTest.class.getClassLoader())) {
            for (Method candidate : loader.loadClass(name).getMethods()) {
                if (candidate.getName().equals(method)) {
                    candidate.invoke(null, argument);
                }
            }
        }
    }

    private static void remove(Path directory) throws IOException {
        List<Path> files;
        try (Stream<Path> found = Files.list(directory)) {
            files = found.toList();
        }
        for (Path file : files) {
            Files.delete(file);
        }
        Files.delete(directory);
    }

    private void commandsAreTheCallsBesideThem() throws Exception {
        int rows = 0;
        for (String line : page) {
            Matcher row = ROW.matcher(line);
            if (row.matches()) {
                rows++;
                SofaRailway byText = readyForAll();
                Check.same(row.group(1), Sofa.run(byText, row.group(1)), 1);
                SofaRailway byCall = readyForAll();
                call(byCall, row);
                Check.same(row.group(1) + " does", Sofa.picture(byText), Sofa.picture(byCall));
            }
        }
        Check.same("commands that are shown", rows, 9);
    }

    private static void call(SofaRailway x, Matcher row) throws Exception {
        int first = Integer.parseInt(row.group(3));
        if (row.group(4) == null) {
            SofaRailway.class.getMethod(row.group(2), int.class).invoke(x, first);
        } else {
            int second = Integer.parseInt(row.group(4));
            SofaRailway.class.getMethod(row.group(2), int.class, int.class).invoke(x, first, second);
        }
    }

    /** A line of 13 blocks, in which train 0 is beside block 2 and train 1 is derailed. */
    private static SofaRailway readyForAll() {
        SofaRailway x = Sofa.line(1, 1, 1, 1, 1, 1, 1, 1, 1, 1, 1, -1, 1);
        x.addTrain(3, 5);
        x.addTrain(9, 5);
        x.setGoal(1, 11);
        x.putCat(10);
        x.passTicks(1);
        return x;
    }

    private void everyCallIsShown() {
        Set<String> shown = new TreeSet<>();
        for (Block block : examples()) {
            Matcher call = Pattern.compile("sofa\\.(\\w+)\\(").matcher(block.text());
            while (call.find()) {
                shown.add(call.group(1));
            }
        }
        Set<String> face = new TreeSet<>();
        for (Method method : SofaRailway.class.getDeclaredMethods()) {
            if (Modifier.isPublic(method.getModifiers())) {
                face.add(method.getName());
            }
        }
        Check.same("the calls that are shown", shown.toString(), face.toString());
    }

    /** Also that each test has the name by which .ci/run finds it. */
    private void everyTestIsNamed() throws IOException {
        Check.yes(".ci/run can be executed", Files.isExecutable(Path.of(".ci/run")));
        String text = String.join("\n", page);
        List<Path> files;
        try (Stream<Path> found = Files.list(TESTS)) {
            files = found.sorted().toList();
        }
        for (Path file : files) {
            String name = file.getFileName().toString().replace(".java", "");
            Check.yes("README.md names " + name, text.contains("`" + name + "`"));
            boolean runs = Files.readString(file).contains("public static void main(");
            Check.yes(name + " is found by its name", runs == name.endsWith("Test"));
        }
        Matcher named = Pattern.compile("`(\\w+(Test|Cases))`").matcher(text);
        while (named.find()) {
            Check.yes(named.group(1) + " is there", files.contains(TESTS.resolve(named.group(1) + ".java")));
        }
    }
}
