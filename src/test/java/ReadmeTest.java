import java.io.IOException;
import java.nio.charset.StandardCharsets;
import java.nio.file.DirectoryStream;
import java.nio.file.Files;
import java.nio.file.Path;
import java.util.ArrayList;
import java.util.Arrays;
import java.util.Comparator;
import java.util.List;
import java.util.TreeSet;
import java.util.regex.Matcher;
import java.util.regex.Pattern;
import java.util.stream.Stream;

/**
 * The program of README.md, built and run in a folder of its own by the very commands below it, prints what its remarks
 * say; and the commands of the tests name each test that there is.
 */
public final class ReadmeTest {
    private static final Path README = Path.of("README.md");
    private static final Path CLASS = Path.of("src/main/java/Nearestward.java");
    private static final Pattern BLOCK = Pattern.compile("```(java|sh)\n(.*?)```\n", Pattern.DOTALL);
    private static final Pattern REMARK = Pattern.compile("println\\(.*\\); *// (.*)");
    private static final Pattern STARTED = Pattern.compile("(?m)^java -cp out (\\w+)");
    private static int wrong;

    private ReadmeTest() {
    }

    public static void main(String[] args) throws IOException, InterruptedException {
        List<String> programs = new ArrayList<>();
        List<String> commands = new ArrayList<>();
        Matcher block = BLOCK.matcher(Files.readString(README));
        while (block.find()) {
            (block.group(1).equals("java") ? programs : commands).add(block.group(2));
        }
        expect(programs.size() == 1 && commands.size() >= 3, "README.md lacks its program, or commands");
        if (wrong == 0) {
            programPrintsItsRemarks(programs.get(0), commands.get(0));
            commandsNameEachTest(String.join("\n", commands));
        }
        System.out.println("ReadmeTest: " + programs.size() + " program, " + commands.size() + " commands, " + wrong + " wrong");
        if (wrong != 0) {
            System.exit(1);
        }
    }

    private static void programPrintsItsRemarks(String program, String commands) throws IOException, InterruptedException {
        List<String> due = new ArrayList<>();
        Matcher remark = REMARK.matcher(program);
        while (remark.find()) {
            due.add(remark.group(1).strip());
        }
        Path folder = Files.createTempDirectory("readme");
        try {
            Files.createDirectories(folder.resolve(CLASS).getParent());
            Files.copy(CLASS, folder.resolve(CLASS));
            Files.writeString(folder.resolve("Example.java"), program);
            List<String> got = run(folder, commands);
            expect(!due.isEmpty() && got.equals(due), "the program printed " + got + ", due is " + due);
        } finally {
            remove(folder);
        }
    }

    private static List<String> run(Path folder, String commands) throws IOException, InterruptedException {
        Process process = new ProcessBuilder("bash", "-e", "-c", commands).directory(folder.toFile())
                .redirectErrorStream(true).start();
        String printed = new String(process.getInputStream().readAllBytes(), StandardCharsets.UTF_8);
        expect(process.waitFor() == 0, "the commands of the program end with " + process.exitValue());
        return Arrays.asList(printed.split("\n"));
    }

    private static void remove(Path folder) throws IOException {
        try (Stream<Path> inside = Files.walk(folder)) {
            for (Path path : inside.sorted(Comparator.reverseOrder()).toList()) {
                Files.delete(path);
            }
        }
    }

    private static void commandsNameEachTest(String commands) throws IOException {
        TreeSet<String> named = new TreeSet<>();
        Matcher started = STARTED.matcher(commands);
        while (started.find()) {
            named.add(started.group(1));
        }
        named.remove("Example");
        TreeSet<String> due = testsUnder("src/test/java", "*Test.java");
        expect(named.containsAll(due), "the commands name the tests " + named + ", there are " + due);
        due.addAll(testsUnder("../shared/tests", "*.java"));
        expect(due.containsAll(named), "the commands name the tests " + named + ", there are " + due + " alone");
        expect(commands.contains("\n.ci/run\n") && Files.isExecutable(Path.of(".ci/run")), "no command runs all tests");
    }

    private static TreeSet<String> testsUnder(String folder, String names) throws IOException {
        TreeSet<String> found = new TreeSet<>();
        try (DirectoryStream<Path> files = Files.newDirectoryStream(Path.of(folder), names)) {
            for (Path file : files) {
                found.add(file.getFileName().toString().replace(".java", ""));
            }
        }
        return found;
    }

    private static void expect(boolean holds, String otherwise) {
        if (!holds) {
            wrong++;
            System.out.println(otherwise);
        }
    }
}
