import java.io.IOException;
import java.nio.file.Files;
import java.nio.file.Path;
import java.util.ArrayList;
import java.util.List;
import java.util.regex.Matcher;
import java.util.regex.Pattern;
import java.util.stream.Collectors;
import java.util.stream.Stream;

/** README.md: its example is compiled and run as it stands there, and must print what its remarks say. */
public final class ReadmeTest {
    private static final Path README = Path.of("README.md");
    private static final Path TESTS = Path.of("src", "test", "java");
    private static final Pattern EXAMPLE = Pattern.compile("```java\n(.*?)```", Pattern.DOTALL);
    /** An answer, and in brackets behind it what it means. */
    private static final Pattern PRINTED = Pattern.compile("System\\.out\\.println\\(.*; +// ([^(]+?)(?: \\(.*\\))?");
    private static final Pattern CALLED = Pattern.compile("\\bx\\.(\\w+)\\(");

    private static final Check check = new Check("ReadmeTest");

    public static void main(String[] args) throws IOException, InterruptedException {
        String readme = Files.readString(README);
        Matcher example = EXAMPLE.matcher(readme);
        check.equal("README.md has an example", true, example.find());
        String program = example.group(1);
        check.equal("the example's answers", remarks(program), printed(program));
        check.equal("a second example", false, example.find());
        changesAreShown(program);
        testsAreNamed(readme);
        check.end();
    }

    private static List<String> remarks(String program) {
        List<String> remarks = new ArrayList<>();
        for (String line : program.split("\n")) {
            Matcher remark = PRINTED.matcher(line.strip());
            boolean prints = line.contains("System.out");
            check.equal("the line has a remark if it prints: " + line, prints, remark.matches());
            if (remark.matches()) {
                remarks.add(remark.group(1));
            }
        }
        return remarks;
    }

    private static List<String> printed(String program) throws IOException, InterruptedException {
        Path place = Files.createTempDirectory("readme");
        Path file = place.resolve("Example.java");
        try {
            Files.writeString(file, program);
            String beside = System.getProperty("java.class.path");
            List<String> refused = told("javac", "--release", "17", "-cp", beside, "-d", place.toString(),
                    file.toString());
            check.equal("javac of the example", List.of(), refused);
            return told("java", "-cp", place + java.io.File.pathSeparator + beside, "Example");
        } finally {
            delete(place);
        }
    }

    private static List<String> told(String... command) throws IOException, InterruptedException {
        Process process = new ProcessBuilder(command).redirectErrorStream(true).start();
        process.getOutputStream().close();
        List<String> told = new String(process.getInputStream().readAllBytes()).lines().collect(Collectors.toList());
        check.equal("the exit code of " + command[0], 0, process.waitFor());
        return told;
    }

    private static void delete(Path place) throws IOException {
        try (Stream<Path> files = Files.list(place)) {
            for (Path file : files.collect(Collectors.toList())) {
                Files.delete(file);
            }
        }
        Files.delete(place);
    }

    /** Who reads the example sees every call that changes something, and programs, output and snapshots. */
    private static void changesAreShown(String program) {
        List<String> called = CALLED.matcher(program).results().map(call -> call.group(1)).collect(Collectors.toList());
        for (String call : new String[] {"addBird", "move", "split", "lose", "spoil", "issue", "refresh", "forget",
            "append", "run", "errorPosition", "failedCommand", "writeSecret", "writeNests", "outputAt", "undo", "save",
            "restore"}) {
            check.equal("the example calls " + call, true, called.contains(call));
        }
    }

    private static void testsAreNamed(String readme) throws IOException {
        try (Stream<Path> files = Files.list(TESTS)) {
            for (Path file : files.collect(Collectors.toList())) {
                String name = file.getFileName().toString().replace(".java", "");
                if (name.endsWith("Test")) {
                    check.equal("README.md names " + name, true, readme.contains("| " + name + " |"));
                }
            }
        }
    }
}
