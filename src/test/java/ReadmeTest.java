import java.io.File;
import java.io.IOException;
import java.lang.reflect.Method;
import java.lang.reflect.Modifier;
import java.nio.file.Files;
import java.nio.file.Path;
import java.util.ArrayList;
import java.util.Arrays;
import java.util.Comparator;
import java.util.List;
import java.util.TreeSet;
import java.util.regex.Matcher;
import java.util.regex.Pattern;
import java.util.stream.Stream;

/** README.md holds as it stands: its Java answers what it says, its commands run, and it names all that is there. */
public final class ReadmeTest {
    private static final Check CHECK = new Check("ReadmeTest");
    private static final Pattern BLOCK = Pattern.compile("(?sm)^```(\\w+)\n(.*?)^```$");
    private static final Pattern CALL = Pattern.compile(
        "(int \\w+ = )?(\\w+[.\\w]*\\(.*\\)); +// (true|false|-?\\d+)(: .*)?");
    private static final String NEW_TOWN = "DesertTown town = new DesertTown();";
    private static final Pattern ROW = Pattern.compile("(?m)^\\| `(\\w+)\\(([^)]*)\\)` \\| (.+) \\|$");

    private final String text;
    private final Path folder;
    private int calls;

    private ReadmeTest(String text, Path folder) {
        this.text = text;
        this.folder = folder;
    }

    public static void main(String[] args) throws Exception {
        Path folder = Files.createTempDirectory("readme");
        try {
            ReadmeTest test = new ReadmeTest(Files.readString(Path.of("README.md")), folder);
            test.runJava();
            test.runCommands();
            test.namesAllCalls();
            test.namesAllClasses();
            test.namesAllTests();
        } finally {
            delete(folder);
        }
        CHECK.finish();
    }

    /** Blocks of statements become methods of one program, in which each call is held against its comment. */
    private void runJava() throws Exception {
        StringBuilder members = new StringBuilder();
        StringBuilder main = new StringBuilder();
        int blocks = 0;
        for (String block : blocks("java")) {
            if (block.startsWith("static ")) {
                members.append(block);
            } else {
                members.append("static void block").append(blocks).append("(Check check) {\n");
                members.append(checked(block)).append("}\n");
                main.append("block").append(blocks).append("(check);\n");
                blocks++;
            }
        }
        String program = "final class ReadmeExamples {\n" + members + "public static void main(String[] args) {\n"
            + "Check check = new Check(\"README.md\");\n" + main + "check.finish();\n}\n}\n";
        Path file = Files.writeString(folder.resolve("ReadmeExamples.java"), program);
        String path = System.getProperty("java.class.path");
        CHECK.due("the Java compiles", run("javac", "-cp", path, "-d", folder.toString(), file.toString()), 0);
        CHECK.due("its answers hold", run("java", "-cp", folder + File.pathSeparator + path, "ReadmeExamples"), 0);
        CHECK.due("it has calls with answers, " + calls, calls > 0, true);
        for (String name : publicMethods().stream().map(m -> m.replaceAll(" .*", "")).toList()) {
            CHECK.due(name + " is shown", String.join("\n", blocks("java")).contains("town." + name + "("), true);
        }
    }

    private String checked(String block) {
        StringBuilder code = new StringBuilder();
        for (String line : block.split("\n")) {
            Matcher call = CALL.matcher(line);
            if (line.equals(NEW_TOWN)) {
                code.append(line).append("\n");
            } else if (call.matches()) {
                code.append(checkedCall(call));
                calls++;
            } else {
                CHECK.due("a line is a call with its answer: " + line, false, true);
            }
        }
        return code.toString();
    }

    private static String checkedCall(Matcher call) {
        String name = "\"" + call.group(2).replace("\"", "\\\"") + "\"";
        if (call.group(1) == null) {
            return "check.due(" + name + ", " + call.group(2) + ", " + call.group(3) + ");\n";
        }
        String variable = call.group(1).split(" ")[1];
        return call.group(1) + call.group(2) + ";\ncheck.due(" + name + ", " + variable + ", " + call.group(3) + ");\n";
    }

    /** But for .ci/run, which runs this test and would never end. */
    private void runCommands() throws Exception {
        boolean all = false;
        int alone = 0;
        for (String block : blocks("sh")) {
            if (block.equals(".ci/run\n")) {
                all = true;
            } else {
                CHECK.due("these commands run: " + block, run("sh", "-e", "-c", block), 0);
                alone++;
            }
        }
        CHECK.due("the command for all tests is named", all, true);
        CHECK.due("it can be run", Files.isExecutable(Path.of(".ci", "run")), true);
        CHECK.due("commands for one test are named", alone, 2);
    }

    private void namesAllCalls() {
        TreeSet<String> named = new TreeSet<>();
        Matcher rows = ROW.matcher(text);
        while (rows.find()) {
            int takes = rows.group(2).isEmpty() ? 0 : rows.group(2).split(", ").length;
            if (!rows.group(1).equals("DesertTown")) {
                CHECK.due(rows.group(1) + " is named once", named.add(rows.group(1) + " " + takes), true);
            }
        }
        CHECK.due("all calls are named, " + named, named.equals(publicMethods()), true);
    }

    private void namesAllClasses() {
        for (Class<?> inside : DesertTown.class.getDeclaredClasses()) {
            CHECK.due(inside.getSimpleName() + " is named", text.contains("`" + inside.getSimpleName() + "`"), true);
        }
    }

    /** Every test there is, and none that there is not. */
    private void namesAllTests() throws IOException {
        TreeSet<String> there = new TreeSet<>();
        try (Stream<Path> files = Files.list(Path.of("src", "test", "java"))) {
            files.map(f -> f.getFileName().toString()).filter(f -> f.endsWith("Test.java"))
                .forEach(f -> there.add(f.replace(".java", "")));
        }
        TreeSet<String> named = new TreeSet<>();
        Matcher names = Pattern.compile("`(\\w+Test)`").matcher(text);
        while (names.find()) {
            named.add(names.group(1));
        }
        CHECK.due("the tests " + there + " are named as " + named, named.equals(there), true);
    }

    private static TreeSet<String> publicMethods() {
        TreeSet<String> methods = new TreeSet<>();
        for (Method method : DesertTown.class.getDeclaredMethods()) {
            if (Modifier.isPublic(method.getModifiers())) {
                methods.add(method.getName() + " " + method.getParameterCount());
            }
        }
        return methods;
    }

    private List<String> blocks(String kind) {
        List<String> blocks = new ArrayList<>();
        Matcher matcher = BLOCK.matcher(text);
        while (matcher.find()) {
            if (matcher.group(1).equals(kind)) {
                blocks.add(matcher.group(2));
            }
        }
        return blocks;
    }

    /** What a command makes by mktemp lands in the test's own folder, and goes with it. */
    private int run(String... command) throws Exception {
        System.out.println("$ " + Arrays.asList(command).get(command.length - 1).trim());
        ProcessBuilder builder = new ProcessBuilder(command).inheritIO();
        builder.environment().put("TMPDIR", folder.toString());
        return builder.start().waitFor();
    }

    private static void delete(Path folder) throws IOException {
        try (Stream<Path> files = Files.walk(folder)) {
            for (Path file : files.sorted(Comparator.reverseOrder()).toList()) {
                Files.delete(file);
            }
        }
    }
}
