import java.io.IOException;
import java.lang.reflect.Method;
import java.lang.reflect.Modifier;
import java.nio.file.Files;
import java.nio.file.Path;
import java.util.ArrayList;
import java.util.List;
import java.util.Set;
import java.util.TreeSet;
import java.util.regex.Matcher;
import java.util.regex.Pattern;
import java.util.stream.Stream;

/** README.md holds what it says. It is run in the project's directory, as .ci/run does. */
public final class ReadmeTest {
    private static final Check check = new Check();

    private static List<String> lines;

    public static void main(String[] args) throws IOException, InterruptedException {
        lines = Files.readAllLines(Path.of("README.md"));
        filesAreThere();
        commands();
        calls();
        blocks();
        rangesOfTerms();
        alarms();
        tests();
        check.end();
    }

    private static void filesAreThere() {
        check.sentence("README.md names files");
        Matcher files = Pattern.compile("`((?:\\.\\./|src/)[\\w./]+)`").matcher(String.join("\n", lines));
        int count = 0;
        while (files.find()) {
            count++;
            check.due(files.group(1), Files.exists(Path.of(files.group(1))), true);
        }
        check.due("files are named", count >= 5, true);
        check.due(".ci/run can be run", Files.isExecutable(Path.of(".ci/run")), true);
    }

    /** The lines of the first fenced text behind a line. */
    private static String fencedBehind(String line, String fence) {
        List<String> behind = lines.subList(lines.indexOf(line) + 1, lines.size());
        List<String> text = behind.subList(behind.indexOf(fence) + 1, behind.size());
        return String.join("\n", text.subList(0, text.indexOf("```"))) + "\n";
    }

    /** What README.md prints is what its program does: the commands are run as they stand, in a copy of the project. */
    private static void commands() throws IOException, InterruptedException {
        check.sentence("README.md tells commands");
        Path above = Files.createTempDirectory("readme");
        Path project = above.resolve("project");
        try {
            copy(Path.of("src"), project.resolve("src"));
            Files.createSymbolicLink(above.resolve("shared"), Path.of("../shared").toRealPath());
            Files.createDirectory(project.resolve("out"));
            Files.writeString(project.resolve("out/Example.java"), fencedBehind("## Use", "```java"));
            int commands = 0;
            for (String line : lines) {
                if (line.startsWith("    java") && isSharedTestThere(line)) {
                    commands++;
                    String printed = printedBy(line.trim(), project);
                    if (line.endsWith(" Example")) {
                        check.due(line, printed, fencedBehind("prints", "```"));
                    }
                }
            }
            check.due("commands", commands >= 4, true);
        } finally {
            remove(above);
        }
    }

    /** The shared tests come with the document, and may come under other names. */
    private static boolean isSharedTestThere(String command) {
        return !command.contains("ToolrestMillRuns") || Files.exists(Path.of("../shared/tests/ToolrestMillRuns.java"));
    }

    private static String printedBy(String command, Path directory) throws IOException, InterruptedException {
        Process process = new ProcessBuilder("sh", "-c", command).directory(directory.toFile()).redirectErrorStream(true).start();
        String printed = new String(process.getInputStream().readAllBytes());
        check.due(command + " ended with exit code", process.waitFor(), 0);
        return printed;
    }

    private static void copy(Path from, Path to) throws IOException {
        try (Stream<Path> paths = Files.walk(from)) {
            for (Path path : (Iterable<Path>) paths::iterator) {
                Path copy = to.resolve(from.relativize(path));
                Files.createDirectories(copy.getParent());
                Files.copy(path, copy);
            }
        }
    }

    private static void remove(Path directory) throws IOException {
        List<Path> all;
        try (Stream<Path> paths = Files.walk(directory)) {
            all = new ArrayList<>(paths.toList());
        }
        for (int i = all.size() - 1; i >= 0; i--) {
            Files.delete(all.get(i));
        }
    }

    /** The rows of the table whose first column has this head. */
    private static List<String[]> table(String head) {
        List<String[]> rows = new ArrayList<>();
        boolean isIn = false;
        for (String line : lines) {
            if (line.startsWith("| " + head + " |")) {
                isIn = true;
            } else if (!line.startsWith("|")) {
                isIn = false;
            } else if (isIn && !line.startsWith("| ---")) {
                rows.add(line.substring(2, line.length() - 2).split(" \\| ", -1));
            }
        }
        check.due("the table " + head + " has rows", rows.isEmpty(), false);
        return rows;
    }

    private static void calls() {
        check.sentence("README.md names each call, with as many numbers as it takes");
        Set<String> told = new TreeSet<>();
        for (String[] row : table("Call")) {
            Matcher names = Pattern.compile("`(\\w+)\\(([^)]*)\\)`").matcher(row[0]);
            while (names.find()) {
                told.add(names.group(1) + " " + (names.group(2).isEmpty() ? 0 : names.group(2).split(", ").length));
            }
        }
        Set<String> face = new TreeSet<>();
        for (Method method : ToolrestMill.class.getDeclaredMethods()) {
            if (Modifier.isPublic(method.getModifiers())) {
                face.add(method.getName() + " " + method.getParameterCount());
            }
        }
        check.due("calls", told, face);
    }

    private static void blocks() {
        check.sentence("README.md names each kind of block");
        StringBuilder told = new StringBuilder();
        for (String[] row : table("Kind")) {
            char kind = row[0].charAt(2);
            told.append(kind);
            check.due("kind " + kind, new ToolrestMill().addBlock(kind, 0, 0, 0), 0);
        }
        for (char kind = 0; kind < 128; kind++) {
            char any = kind;
            boolean isKind = Check.thrownBy(() -> new ToolrestMill().addBlock(any, 0, 0, 0)) == null;
            check.due("kind " + (int) kind, isKind, told.indexOf("" + kind) >= 0);
        }
    }

    /** Where a row tells a range, its ends are taken, and the numbers beyond them give the alarm 'n'. */
    private static void rangesOfTerms() {
        check.sentence("README.md tells terms");
        int ranges = 0;
        for (String[] row : table("Kind")) {
            Matcher range = Pattern.compile("(\\d+) (?:or|to) (\\d+)").matcher(row[1]);
            if (range.matches()) {
                ranges++;
                int least = Integer.parseInt(range.group(1));
                int most = Integer.parseInt(range.group(2));
                for (int number = -50; number <= 50; number++) {
                    String block = row[0].charAt(2) + " " + number;
                    ToolrestMill mill = Check.ran(new ToolrestMill(), block.startsWith("r") ? block + ",e" : block);
                    check.due(block, mill.alarm(), number >= least && number <= most ? '-' : 'n');
                }
            }
        }
        check.due("ranges", ranges, 5);
    }

    private static void alarms() {
        check.sentence("README.md tells alarms");
        String[][] programs = {{"n", "s 2"}, {"n", "t 0 3"}, {"t", "s 1,t 0 0"}, {"w", "t 0 2,s 1,l 0 0 5,s 0,t 0 2"},
            {"w", "t 0 2,s 1,l 0 0 5,l 0 0 9"}, {"s", "s 1,l 0 0 9"}, {"s", "x 0"}, {"s", "t 0 0,l 0 0 9"}, {"l", "g 16 0 0"},
            {"c", "t 0 0,g 5 5 5"}, {"c", "t 0 0,s 1,l 9 9 5"}, {"x", "g 5 5 5,t 0 0,x 0"}};
        StringBuilder told = new StringBuilder();
        for (String[] row : table("Alarm")) {
            told.append(row[0].charAt(2));
        }
        check.due("alarms", told.toString(), "ntwslcx");
        for (String[] program : programs) {
            ToolrestMill mill = Check.withEnds();
            mill.putCutter(0, 2, 'e', 0, 1);
            mill.setFixture(9, 9, 5, true);
            check.due(program[1], "" + Check.ran(mill, program[1]).alarm(), program[0]);
        }
    }

    private static void tests() throws IOException {
        check.sentence("README.md names each test");
        Set<String> told = new TreeSet<>();
        for (String[] row : table("Test")) {
            told.add(row[0].replace("`", "") + ".java");
        }
        Set<String> there = new TreeSet<>();
        try (Stream<Path> files = Files.list(Path.of("src/test/java"))) {
            files.map(file -> file.getFileName().toString()).filter(name -> name.endsWith("Test.java")).forEach(there::add);
        }
        check.due("tests", told, there);
    }
}
