import java.io.File;
import java.io.IOException;
import java.lang.reflect.Method;
import java.lang.reflect.Modifier;
import java.nio.charset.StandardCharsets;
import java.nio.file.Files;
import java.nio.file.Path;
import java.util.ArrayList;
import java.util.Arrays;
import java.util.Comparator;
import java.util.List;
import java.util.Set;
import java.util.TreeSet;
import java.util.regex.Matcher;
import java.util.regex.Pattern;
import java.util.stream.Stream;

/**
 * What README.md shows of the use of the class: its program is compiled and run by the commands
 * that the page gives, each example is compiled and each of its calls has to answer what its remark
 * says, and the lists of calls and of tests have to be whole.
 */
public final class ReadmeTests {
    private static final String SOURCE = "src/main/java/GridEngine.java";
    private static final String CALL_OF_TESTS = "sh .ci/run";

    // A call of an example, and the answer or the exception that its remark begins with.
    private static final Pattern CALL = Pattern.compile(
        "(grid\\.\\w+\\(.*\\)); +// (-?\\d+|true|false|[A-Z]\\w+Exception)(: .*)?");
    private static final Pattern NAME = Pattern.compile("`(\\w+)`");

    /** A part of the page between two lines of backquotes. */
    private record Block(String kind, int line, List<String> lines) { }

    public static void main(String[] args) throws IOException, InterruptedException {
        List<String> page = Files.readAllLines(Path.of("README.md"), StandardCharsets.UTF_8);
        List<Block> blocks = blocks(page);
        Path folder = Files.createTempDirectory("readme");
        try {
            Files.createDirectories(folder.resolve(SOURCE).getParent());
            Files.copy(Path.of(SOURCE), folder.resolve(SOURCE));
            program(blocks, folder);
            examples(blocks, folder);
        } finally {
            remove(folder);
        }
        callOfTests(blocks);
        tableOfTests(page);
        tableOfCalls(page);
        Check.finish("ReadmeTests");
    }

    // ---- reading the page

    private static List<Block> blocks(List<String> page) {
        List<Block> blocks = new ArrayList<>();
        Block open = null;
        for (int i = 0; i < page.size(); i++) {
            String line = page.get(i);
            if (!line.startsWith("```")) {
                if (open != null) {
                    open.lines.add(line);
                }
            } else if (open == null) {
                open = new Block(line.substring(3), i + 1, new ArrayList<>());
            } else {
                blocks.add(open);
                open = null;
            }
        }
        Check.due("each block of the page has an end", true, open == null);
        return blocks;
    }

    private static List<Block> ofKind(List<Block> blocks, String kind) {
        return blocks.stream().filter(block -> block.kind.equals(kind)).toList();
    }

    private static boolean isProgram(Block block) {
        return block.lines.get(0).equals("public final class Demo {");
    }

    private static boolean isOfTests(Block block) {
        return block.lines.contains(CALL_OF_TESTS);
    }

    // ---- the program

    /** Follows the page: writes the file, gives the commands, and looks at what is printed. */
    private static void program(List<Block> blocks, Path folder)
            throws IOException, InterruptedException {
        List<Block> programs = ofKind(blocks, "java").stream().filter(b -> isProgram(b)).toList();
        List<Block> outputs = ofKind(blocks, "text");
        Check.due("programs on the page", 1, programs::size);
        Check.due("outputs on the page", 1, outputs::size);
        if (programs.size() != 1 || outputs.size() != 1) {
            return;
        }
        Files.write(folder.resolve("Demo.java"), programs.get(0).lines);
        StringBuilder printed = new StringBuilder();
        for (Block block : ofKind(blocks, "sh")) {
            if (!isOfTests(block)) {
                for (String command : block.lines) {
                    printed.append(run(folder, command));
                }
            }
        }
        Check.same("what the program prints", String.join("\n", outputs.get(0).lines),
            printed.toString().strip());
    }

    /** Runs a command in a folder; tells what it prints, with its fault if it has one. */
    private static String run(Path folder, String command)
            throws IOException, InterruptedException {
        Process process = new ProcessBuilder(command.split(" "))
            .directory(folder.toFile()).redirectErrorStream(true).start();
        String printed = new String(process.getInputStream().readAllBytes(),
            StandardCharsets.UTF_8).replace("\r", "");
        int end = process.waitFor();
        return end == 0 ? printed : printed + command + " ended with " + end + "\n";
    }

    // ---- the examples

    /** Makes a class of all examples in which each call is compared with its remark, and runs it. */
    private static void examples(List<Block> blocks, Path folder)
            throws IOException, InterruptedException {
        StringBuilder source = new StringBuilder();
        StringBuilder calls = new StringBuilder();
        Set<String> asked = new TreeSet<>();
        int made = 0;
        for (Block block : ofKind(blocks, "java")) {
            if (!isProgram(block)) {
                source.append("static void example").append(block.line).append("() {\n");
                for (int i = 0; i < block.lines.size(); i++) {
                    source.append(comparing(block.lines.get(i), block.line + i + 1, asked));
                }
                source.append("}\n");
                calls.append("example").append(block.line).append("();\n");
                made++;
            }
        }
        int examples = made;
        Check.due("the page has examples", true, examples >= 5);
        Files.writeString(folder.resolve("Examples.java"), "public final class Examples {\n"
            + "static void feed(GridEngine grid, String text) { Demo.feed(grid, text); }\n"
            + "static void due(int line, String call, String want, String got) {\n"
            + "if (!want.equals(got)) { System.out.println(\"line \" + line + \": \" + call"
            + " + \" says \" + want + \", answered \" + got); } }\n"
            + "public static void main(String[] args) {\n" + calls + "}\n" + source + "}\n");
        String printed = run(folder, "javac -d out " + SOURCE + " Demo.java Examples.java")
            + run(folder, "java -cp out Examples");
        Check.same("what is wrong in the examples", "", printed.strip());
        Check.due("the examples show half of the calls", true, asked.size() >= 14);
    }

    /** A line of an example, as a comparison of the call with its remark if it is a call. */
    private static String comparing(String line, int number, Set<String> asked) {
        Matcher call = CALL.matcher(line);
        if (!call.matches()) {
            Check.due("line " + number + " needs no answer: " + line, true,
                line.matches("(GridEngine grid = new GridEngine\\(\\);)|(feed\\(grid, .*\\);)"));
            return line + "\n";
        }
        asked.add(call.group(1).substring(0, call.group(1).indexOf('(')));
        return "{ String got; try { got = String.valueOf(" + call.group(1) + "); }"
            + " catch (RuntimeException e) { got = e.getClass().getSimpleName(); }"
            + " due(" + number + ", \"" + call.group(1) + "\", \"" + call.group(2) + "\", got); }\n";
    }

    // ---- the lists

    private static void callOfTests(List<Block> blocks) {
        Check.due("the page tells how to run the tests", true,
            ofKind(blocks, "sh").stream().anyMatch(block -> isOfTests(block)));
        Check.due(".ci/run can be run", true, Files.isExecutable(Path.of(".ci/run")));
    }

    private static void tableOfTests(List<String> page) {
        Set<String> named = new TreeSet<>();
        for (String line : page) {
            Matcher name = NAME.matcher(line);
            if (line.startsWith("| `") && name.find() && name.group(1).endsWith("Tests")) {
                named.add(name.group(1));
            }
        }
        Set<String> found = new TreeSet<>();
        for (String file : Arrays.asList(new File("src/test/java").list())) {
            if (file.endsWith("Tests.java")) {
                found.add(file.substring(0, file.length() - ".java".length()));
            }
        }
        Check.same("the table of tests", found.toString(), named.toString());
    }

    private static void tableOfCalls(List<String> page) {
        Set<String> named = new TreeSet<>();
        for (String line : page.subList(Math.max(0, page.indexOf("| what | calls |")), page.size())) {
            if (!line.startsWith("|")) {
                break;
            }
            Matcher name = NAME.matcher(line);
            while (name.find()) {
                named.add(name.group(1));
            }
        }
        Set<String> found = new TreeSet<>();
        for (Method method : GridEngine.class.getDeclaredMethods()) {
            if (Modifier.isPublic(method.getModifiers())) {
                found.add(method.getName());
            }
        }
        Check.same("the table of calls", found.toString(), named.toString());
    }

    private static void remove(Path folder) throws IOException {
        List<Path> inside;
        try (Stream<Path> paths = Files.walk(folder)) {
            inside = paths.sorted(Comparator.reverseOrder()).toList();
        }
        for (Path path : inside) {
            Files.delete(path);
        }
    }
}
