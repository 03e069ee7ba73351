import java.io.IOException;
import java.lang.reflect.Method;
import java.lang.reflect.Modifier;
import java.lang.reflect.Parameter;
import java.nio.file.Files;
import java.nio.file.Path;
import java.util.ArrayList;
import java.util.Comparator;
import java.util.List;
import java.util.TreeSet;
import java.util.regex.Matcher;
import java.util.regex.Pattern;
import java.util.stream.Stream;

/** What README.md says is so: its commands are given, its example is run, its tables are asked for. */
public final class ReadmeTest {
    private static final String ALL_TESTS = ".ci/run\n";
    /** A column of a table that holds a number, and one that holds code. */
    private static final String NUMBER = "\\| (-?\\d+) ";
    private static final String CODE = "\\| `((?:\\\\\\||[^|`])*)` ";

    public static void main(String[] args) throws IOException, InterruptedException {
        String readme = Files.readString(Path.of("README.md"));
        commands(readme);
        example(readme);
        calls(readme);
        statements(readme);
        errors(readme);
        nodes(readme);
        counts(readme);
        lists(readme);
        tests(readme);
        Probe.finish("Readme");
    }

    /** Gives the commands in a copy of the project, so that they leave nothing in the project itself. */
    private static void commands(String readme) throws IOException, InterruptedException {
        Path room = Files.createTempDirectory("readme");
        Path project = room.resolve("main");
        for (String part : new String[] {"src", "example"}) {
            copy(Path.of(part), project.resolve(part));
        }
        Files.createSymbolicLink(room.resolve("shared"), Path.of("../shared").toRealPath());
        Matcher blocks = Pattern.compile("(?s)```sh\n(.*?)```(?:\n\nand prints\n\n```text\n(.*?)```)?").matcher(readme);
        int given = 0;
        int printed = 0;
        while (blocks.find()) {
            String command = blocks.group(1);
            // All tests are what runs this one; given from here, they would run without an end.
            if (!command.equals(ALL_TESTS)) {
                String due = blocks.group(2);
                String got = give(command, project, room.resolve("printed"));
                Probe.due("command " + command, due == null ? got.split("\n")[0] : got, due == null ? "ended with 0"
                    : "ended with 0\n" + due);
                given++;
                printed += due == null ? 0 : 1;
            }
        }
        Probe.due("commands given", given, 4);
        Probe.due("commands with what they print", printed, 1);
        Probe.due("the command for all tests stands there", readme.contains("```sh\n" + ALL_TESTS + "```"), true);
        Probe.due("it can be given", Files.isExecutable(Path.of(".ci/run")), true);
        remove(room);
    }

    /** How a command ended, and behind that what it printed. */
    private static String give(String command, Path where, Path printed) throws IOException, InterruptedException {
        Process process = new ProcessBuilder("sh", "-e", "-c", command).directory(where.toFile())
            .redirectErrorStream(true).redirectOutput(printed.toFile()).start();
        int code = process.waitFor();
        return "ended with " + code + "\n" + Files.readString(printed);
    }

    private static void copy(Path from, Path to) throws IOException {
        List<Path> all = pathsUnder(from);
        for (Path path : all) {
            Path target = to.resolve(from.relativize(path).toString());
            if (Files.isDirectory(path)) {
                Files.createDirectories(target);
            } else {
                Files.copy(path, target);
            }
        }
    }

    private static void remove(Path room) throws IOException {
        List<Path> all = pathsUnder(room);
        all.sort(Comparator.reverseOrder());
        for (Path path : all) {
            Files.delete(path);
        }
    }

    private static List<Path> pathsUnder(Path top) throws IOException {
        try (Stream<Path> all = Files.walk(top)) {
            return new ArrayList<>(all.toList());
        }
    }

    private static void example(String readme) throws IOException {
        String program = Files.readString(Path.of("example/Example.java"));
        Probe.due("the example stands there", readme.contains("```java\n" + program + "```"), true);
        for (Method method : SqlReader.class.getDeclaredMethods()) {
            boolean open = Modifier.isPublic(method.getModifiers());
            boolean called = program.contains("reader." + method.getName() + "(");
            Probe.due("the example calls " + method.getName(), !open || called, true);
        }
    }

    /** The table of calls has each public one with its types, and no other. */
    private static void calls(String readme) {
        TreeSet<String> due = new TreeSet<>();
        due.add("SqlReader()");
        for (Method method : SqlReader.class.getDeclaredMethods()) {
            if (Modifier.isPublic(method.getModifiers())) {
                List<String> types = new ArrayList<>();
                for (Parameter parameter : method.getParameters()) {
                    types.add(parameter.getType().toString());
                }
                due.add(method.getReturnType() + " " + method.getName() + "(" + String.join(", ", types) + ")");
            }
        }
        TreeSet<String> got = new TreeSet<>();
        for (Matcher row : rows(readme, "| Call |", CODE + "\\|.*")) {
            got.add(row.group(1).replaceAll("(long|int) \\w+([,)])", "$1$2"));
        }
        Probe.due("calls", got.toString(), due.toString());
        Probe probe = tables();
        Probe.due("type SELECT", probe.reader.type(0x53454C454354L, 6), true);
        Probe.due("SELECT was typed", probe.read(" 1 FROM t"), 8);
        String typed = "`reader.type(0x53454C454354L, 6)` types `SELECT`";
        Probe.due("that number stands there", readme.contains(typed), true);
    }

    private static void statements(String readme) {
        TreeSet<Integer> kinds = new TreeSet<>();
        for (Matcher row : rows(readme, "| `read()` | Statement |", NUMBER + CODE + "\\|")) {
            int kind = Integer.parseInt(row.group(1));
            tables().reads(kind, row.group(2), row.group(2) + ";");
            kinds.add(kind);
        }
        Probe.due("kinds", kinds.toString(), "" + upTo(1, 19));
    }

    private static void errors(String readme) {
        TreeSet<Integer> errors = new TreeSet<>();
        for (Matcher row : rows(readme, "| `read()` | Error", NUMBER + "\\| .* (?:" + CODE + "\\||\\| \\|)")) {
            int error = Integer.parseInt(row.group(1));
            if (row.group(2) == null) {
                Probe.due("the error whose statements are too long for the table", error, -2);
            } else {
                tables().reads(error, row.group(2));
            }
            errors.add(-error);
        }
        Probe.due("errors", errors.toString(), "" + upTo(1, 10));
        tables().reads(8, "SELECT 1" + " + 1".repeat(99) + " FROM t");
        tables().reads(-2, "SELECT 1" + " + 1".repeat(99) + ", 1, 1 FROM t");
        tables().reads(-2, "SELECT * FROM t WHERE 1" + " + 1".repeat(97) + " < 2 AND TRUE");
        tables().reads(8, "SELECT " + "(".repeat(20) + "a" + ")".repeat(20) + " FROM t");
        tables().reads(-1, "SELECT " + "(".repeat(21) + "a" + ")".repeat(21) + " FROM t");
    }

    private static void nodes(String readme) {
        TreeSet<Integer> kinds = new TreeSet<>();
        for (Matcher row : rows(readme, "| Kind |", NUMBER + CODE + "\\|")) {
            int kind = Integer.parseInt(row.group(1));
            Probe probe = tables();
            probe.reads(16, "PREPARE p AS SELECT " + row.group(2).replace("\\|", "|") + " FROM t");
            Probe.due("kind of " + row.group(2), probe.reader.node(probe.reader.list(0, 0), 0), kind);
            kinds.add(kind);
        }
        Probe.due("kinds of nodes", kinds.toString(), "" + upTo(0, 28));
        String between = tables().nodesOf("SELECT a >= 1 AND a <= 2 FROM t");
        Probe.due("BETWEEN", tables().nodesOf("SELECT a BETWEEN 1 AND 2 FROM t"), between);
        Probe.due("NOT BETWEEN", tables().nodesOf("SELECT a NOT BETWEEN 1 AND 2 FROM t"), between + " 25(6)");
        String in = tables().nodesOf("SELECT a = 1 OR a = 2 FROM t");
        Probe.due("IN", tables().nodesOf("SELECT a IN (1, 2) FROM t"), in);
        Probe.due("NOT IN", tables().nodesOf("SELECT a NOT IN (1, 2) FROM t"), in + " 25(6)");
    }

    private static void counts(String readme) {
        List<Integer> told = new ArrayList<>();
        for (Matcher row : rows(readme, "| `what` |", NUMBER + "\\| [^|]*" + CODE + NUMBER + "\\|")) {
            int what = Integer.parseInt(row.group(1));
            Probe probe = tables();
            Probe.due("read " + row.group(2), probe.read(row.group(2)) > 0, true);
            Probe.due("count " + what + " of " + row.group(2), "" + probe.reader.count(what), row.group(3));
            told.add(what);
        }
        Probe.due("what count tells", told.toString(), "" + upTo(0, 17));
        String text = readme.replaceAll("\\s+", " ");
        modes(15, "LOCK t ", text.replaceAll(".*modes of LOCK are (.*); those of BEGIN.*", "$1"));
        String levels = text.replaceAll(".*those of BEGIN (.*); those of FOR.*", "$1");
        modes(9, "BEGIN ", levels.replace("(also with none)", ""));
        modes(8, "SELECT a FROM t FOR ", text.replaceAll(".*those of FOR (1 SHARE and 2 UPDATE)\\..*", "$1"));
    }

    /** Modes with their numbers before them. */
    private static void modes(int kind, String before, String modes) {
        for (String mode : modes.split(" *, | and ")) {
            Probe probe = tables();
            probe.reads(kind, before + mode.substring(2));
            Probe.due("mode " + mode, probe.reader.count(10), mode.charAt(0) - '0');
        }
    }

    private static void lists(String readme) {
        List<Integer> told = new ArrayList<>();
        for (Matcher row : rows(readme, "| `which` |", NUMBER + "\\| [^|]*" + CODE + "\\| ([-0-9 ]*) \\|")) {
            int which = Integer.parseInt(row.group(1));
            Probe probe = tables();
            Probe.due("read " + row.group(2), probe.read(row.group(2)) > 0, true);
            Probe.due("list " + which + " of " + row.group(2), probe.list(which, 3), row.group(3) + " -1");
            told.add(which);
        }
        Probe.due("what list tells", told.toString(), "" + upTo(0, 9));
    }

    /** Every test of the project is named, and so is no other. */
    private static void tests(String readme) throws IOException {
        TreeSet<String> due = new TreeSet<>();
        for (Path path : pathsUnder(Path.of("src/test/java"))) {
            String name = path.getFileName().toString();
            if (name.endsWith("Test.java")) {
                due.add(name.substring(0, name.length() - ".java".length()));
            }
        }
        TreeSet<String> got = new TreeSet<>();
        Matcher names = Pattern.compile("`(\\w+Test)`").matcher(readme);
        while (names.find()) {
            got.add(names.group(1));
        }
        Probe.due("tests", got.toString(), due.toString());
    }

    /** The tables that README.md's examples are of. */
    private static Probe tables() {
        Probe probe = new Probe();
        probe.make("t", "a1 b2 c3");
        probe.make("u", "a1");
        return probe;
    }

    /** The rows of the table under a head; every one has to be of the form. */
    private static List<Matcher> rows(String readme, String head, String form) {
        List<Matcher> rows = new ArrayList<>();
        int start = readme.indexOf("\n" + head);
        Probe.due("there is a table " + head, start >= 0, true);
        String[] lines = readme.substring(start + 1).split("\n");
        for (int i = 2; i < lines.length && lines[i].startsWith("|"); i++) {
            Matcher row = Pattern.compile(form).matcher(lines[i]);
            Probe.due("row " + lines[i], row.matches(), true);
            if (row.matches()) {
                rows.add(row);
            }
        }
        return rows;
    }

    private static List<Integer> upTo(int first, int last) {
        List<Integer> all = new ArrayList<>();
        for (int i = first; i <= last; i++) {
            all.add(i);
        }
        return all;
    }
}
