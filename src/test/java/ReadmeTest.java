import java.io.IOException;
import java.lang.reflect.Method;
import java.lang.reflect.Modifier;
import java.nio.file.Files;
import java.nio.file.Path;
import java.util.ArrayList;
import java.util.List;
import java.util.Set;
import java.util.TreeSet;
import java.util.regex.Matcher;
import java.util.regex.Pattern;

/** README.md is there, and what it gives, commands and an example of use, works as it says. */
public final class ReadmeTest {
    private static final Path README = Path.of("README.md");
    private static final Check check = new Check();

    /** What stands between two lines of three strokes, and the word behind the first of them. */
    private record Block(String kind, String text) {
    }

    private final Path room;
    private final List<Block> blocks = new ArrayList<>();
    private final String prose;

    private ReadmeTest(Path room, String readme) {
        this.room = room;
        Matcher m = Pattern.compile("(?ms)^```(\\w*)\n(.*?)^```$").matcher(readme);
        while (m.find()) {
            blocks.add(new Block(m.group(1), m.group(2)));
        }
        prose = m.replaceAll("");
    }

    public static void main(String[] args) throws Exception {
        if (!Files.isRegularFile(README)) {
            check.report("there is no README.md");
            check.finish();
            return;
        }
        Path room = Files.createTempDirectory("readme");
        try {
            ReadmeTest test = new ReadmeTest(room, Files.readString(README));
            test.kindsOfBlocks();
            test.calls();
            test.namedFiles();
            test.configuration();
            test.commands();
            test.allTests();
        } finally {
            Shell.delete(room);
        }
        check.finish();
    }

    private List<Block> blocks(String kind) {
        return blocks.stream().filter(b -> b.kind.equals(kind)).toList();
    }

    /** No block may be of a kind that this test does not look at. */
    private void kindsOfBlocks() {
        for (Block block : blocks) {
            check.due("a known kind of block: " + block.kind,
                Set.of("java", "sh", "text", "config").contains(block.kind), true);
        }
        for (String kind : List.of("java", "sh", "text", "config")) {
            check.due("blocks " + kind, blocks(kind).isEmpty(), false);
        }
    }

    private void calls() {
        Set<String> face = new TreeSet<>();
        for (Method m : FlowExporter.class.getDeclaredMethods()) {
            if (Modifier.isPublic(m.getModifiers())) {
                face.add(m.getName());
            }
        }
        Set<String> told = new TreeSet<>();
        for (String line : prose.split("\n")) {
            Matcher m = Pattern.compile("`(\\w+)`").matcher(line);
            while (line.startsWith("| ") && m.find()) {
                check.due(m.group(1) + " stands once in the table", told.add(m.group(1)), true);
            }
        }
        check.dueObject("the calls of the table", told, face);
    }

    private void namedFiles() {
        Matcher path = Pattern.compile("`((?:\\.\\./|src/)[\\w./]+|\\w+\\.md)`").matcher(prose);
        while (path.find()) {
            check.due(path.group(1) + " is there", Files.exists(Path.of(path.group(1))), true);
        }
        Set<String> told = new TreeSet<>();
        Matcher test = Pattern.compile("`(\\w*Test|Twins|Model)`").matcher(prose);
        while (test.find()) {
            told.add(test.group(1));
        }
        check.due("tests named", told.size() >= 10, true);
        for (String name : told) {
            check.due("the test " + name, Files.exists(Path.of("src/test/java", name + ".java")), true);
        }
    }

    private void configuration() {
        for (Block block : blocks("config")) {
            FlowExporter x = new FlowExporter();
            int statements = block.text.length() - block.text.replace(";", "").length();
            check.due("load() of " + block.text, Check.load(x, block.text), statements);
            for (String word : List.of("sampling", "budget", "active", "inactive", "refresh", "lifetime", "length",
                    "assume", "template", "use", "drop")) {
                check.due("a statement " + word, Pattern.compile("\\b" + word + " ").matcher(block.text).find(), true);
            }
        }
    }

    /** Runs each block of commands; the block of text behind it, if there is one, is what it prints. */
    private void commands() throws Exception {
        Path project = copyOfProject("whole");
        Shell.copy(Path.of("src/test"), project.resolve("src/test"));
        Shell.copy(Path.of("../shared"), project.resolve("../shared"));
        for (int k = 0; k < blocks.size(); k++) {
            Block block = blocks.get(k);
            if (block.kind.equals("java")) {
                Matcher name = Pattern.compile("public final class (\\w+)").matcher(block.text);
                check.due("the example has a name", name.find(), true);
                check.due("the file of the example", prose.contains("`" + name.group(1) + ".java`"), true);
                Files.writeString(project.resolve(name.group(1) + ".java"), block.text);
            }
            if (block.kind.equals("sh") && !isRunOfAllTests(block)) {
                Shell shell = Shell.run(project, block.text);
                check.due("exit code of " + block.text, shell.exit, 0);
                boolean told = k + 1 < blocks.size() && blocks.get(k + 1).kind.equals("text");
                String due = told ? blocks.get(k + 1).text : "";
                check.dueObject("what is printed by " + block.text, shell.lines, due.lines().toList());
            }
        }
    }

    private static boolean isRunOfAllTests(Block block) {
        return block.text.trim().equals(".ci/run");
    }

    private Path copyOfProject(String name) throws IOException {
        Path project = room.resolve(name).resolve("main");
        Shell.copy(Path.of(".ci"), project.resolve(".ci"));
        Shell.copy(Path.of("src/main"), project.resolve("src/main"));
        return project;
    }

    /** The script that runs all tests is put to a few small ones: this test cannot run within itself. */
    private void allTests() throws Exception {
        long told = blocks("sh").stream().filter(ReadmeTest::isRunOfAllTests).count();
        check.due("the command that runs all tests", told, 1);
        ranWell(allTests("good", "GoodTest", "GoodRuns"), "GoodTest", "GoodRuns");
        ranBadly(allTests("badOwn", "BadTest", "GoodRuns"), "BadTest");
        ranBadly(allTests("badShared", "GoodTest", "BadRuns"), "BadRuns");
    }

    private Shell allTests(String name, String own, String shared) throws Exception {
        Path project = copyOfProject(name);
        Path tests = project.resolve("src/test/java");
        Files.createDirectories(tests);
        Files.writeString(tests.resolve("Helper.java"), "final class Helper { }\n");
        Files.writeString(tests.resolve(own + ".java"), smallTest(own, "new Helper(); "));
        tests = project.resolve("../shared/tests");
        Files.createDirectories(tests);
        Files.writeString(tests.resolve(shared + ".java"), smallTest(shared, ""));
        return Shell.run(project, ".ci/run");
    }

    /** A test of one question, to which a bad one has the wrong answer. */
    private static String smallTest(String name, String more) {
        String due = name.startsWith("Bad") ? "1" : "0";
        return "public final class " + name + " { public static void main(String[] args) { " + more
            + "if (new FlowExporter().now() != " + due + ") { System.exit(1); } } }\n";
    }

    private static void ranWell(Shell shell, String... tests) {
        check.due("exit code if none fails", shell.exit, 0);
        check.due("last line " + shell.lastLine(), shell.lastLine().matches("[1-9]\\d* passed, 0 failed"), true);
        for (String test : tests) {
            check.due("a line ok of " + test, hasLine(shell, "ok", test), true);
        }
        check.due("lines FAIL", shell.lines.stream().anyMatch(l -> l.startsWith("FAIL")), false);
        check.due("a line of a helper", shell.lines.stream().anyMatch(l -> l.endsWith(" Helper")), false);
    }

    private static void ranBadly(Shell shell, String test) {
        check.due("exit code if " + test + " fails", shell.exit != 0, true);
        check.due("last line " + shell.lastLine(), shell.lastLine().matches("[1-9]\\d* passed, 1 failed"), true);
        check.due("a line FAIL of " + test, hasLine(shell, "FAIL", test), true);
        check.due("lines FAIL", shell.lines.stream().filter(l -> l.startsWith("FAIL")).count(), 1);
    }

    private static boolean hasLine(Shell shell, String word, String test) {
        return shell.lines.stream().anyMatch(l -> l.matches(word + " +" + test));
    }
}
