import java.io.IOException;
import java.lang.reflect.Method;
import java.lang.reflect.Modifier;
import java.nio.charset.StandardCharsets;
import java.nio.file.DirectoryStream;
import java.nio.file.Files;
import java.nio.file.Path;
import java.util.ArrayList;
import java.util.List;
import java.util.regex.Matcher;
import java.util.regex.Pattern;

/** What README.md says of the use of the class is run as it stands there; its command for the tests is the one that runs all. */
public final class ReadmeTest {
    private static final Path README = Path.of("README.md");
    private static final Path CLASS = Path.of("src/main/java/SandLedger.java");
    private static final Path TESTS = Path.of("src/test/java");
    private static final Path RUN = Path.of(".ci/run");
    private static final String FIRST_LINE = "SandLedger pit = new SandLedger();";
    /** Perhaps a name for the answer, the call, the answer, what it means. */
    private static final Pattern CALL = Pattern.compile("(?:(?:int|long) (\\w+) = )?(pit\\.(\\w+)\\(.*\\)); +// (-?\\d+): \\S.*");
    private static final int CALLS_AT_MOST = 512;

    private final List<String> asked = new ArrayList<>();
    private final List<Long> due = new ArrayList<>();

    public static void main(String[] args) throws IOException, InterruptedException {
        String readme = read(README);
        new ReadmeTest().useAnswersAsTold(readme);
        everyCallIsShown(readme);
        findingsAreNumberedAsTold(readme);
        commandRunsAllTests(readme);
        Check.end("ReadmeTest");
    }

    private static String read(Path file) throws IOException {
        return Files.readString(file, StandardCharsets.UTF_8);
    }

    /** What stands between ```language and ```, as lines. */
    private static List<List<String>> boxes(String page, String language) {
        List<List<String>> boxes = new ArrayList<>();
        Matcher m = Pattern.compile("(?ms)^```" + language + "\n(.*?)^```$").matcher(page);
        while (m.find()) {
            boxes.add(List.of(m.group(1).split("\n")));
        }
        return boxes;
    }

    private static String section(String page, String title) {
        int begin = page.indexOf("\n## " + title + "\n");
        int end = begin < 0 ? -1 : page.indexOf("\n## ", begin + 1);
        Check.holds("README.md has a part " + title, begin >= 0);
        return begin < 0 ? "" : end < 0 ? page.substring(begin) : page.substring(begin, end);
    }

    // ---- the use

    private void useAnswersAsTold(String readme) throws IOException, InterruptedException {
        Path folder = Files.createTempDirectory("readme");
        try {
            Files.createDirectories(folder.resolve(CLASS).getParent());
            Files.copy(CLASS, folder.resolve(CLASS));
            for (List<String> command : boxes(section(readme, "Use"), "sh")) {
                shell(folder, String.join("\n", command));
            }
            Check.holds("README.md's command makes the class", Files.isRegularFile(folder.resolve("build/SandLedger.class")));
            Files.writeString(folder.resolve("Boxes.java"), program(boxes(readme, "java")), StandardCharsets.UTF_8);
            shell(folder, "javac -encoding UTF-8 -cp build -d build Boxes.java");
            compare(shell(folder, "java -cp build Boxes"));
        } finally {
            remove(folder);
        }
    }

    /** Runs each box as it stands, then once more with each answer printed. */
    private String program(List<List<String>> boxes) {
        Check.holds("README.md shows the use", !boxes.isEmpty());
        StringBuilder methods = new StringBuilder();
        StringBuilder main = new StringBuilder();
        for (int i = 0; i < boxes.size(); i++) {
            List<String> box = boxes.get(i);
            Check.holds("box " + i + " begins with a new object", box.get(0).equals(FIRST_LINE));
            Check.holds("box " + i + " keeps to an object's calls", box.size() - 1 <= CALLS_AT_MOST);
            methods.append("static void stands").append(i).append("() {\n").append(String.join("\n", box)).append("\n}\n");
            methods.append("static void answers").append(i).append("() {\n").append(FIRST_LINE).append('\n');
            for (String line : box.subList(1, box.size())) {
                methods.append(printing(line)).append('\n');
            }
            methods.append("}\n");
            main.append("stands").append(i).append("(); answers").append(i).append("();\n");
        }
        return "public final class Boxes {\n" + methods + "public static void main(String[] args) {\n" + main + "}\n}\n";
    }

    private String printing(String line) {
        Matcher m = CALL.matcher(line);
        if (!m.matches()) {
            Check.holds("a line of README.md is a call with its answer: " + line, false);
            return "";
        }
        asked.add(line);
        due.add(Long.parseLong(m.group(4)));
        String print = "System.out.println(" + (m.group(1) == null ? m.group(2) : m.group(1)) + ");";
        return m.group(1) == null ? print : line.substring(0, line.indexOf(';') + 1) + " " + print;
    }

    private void compare(String printed) {
        String[] got = printed.isEmpty() ? new String[0] : printed.split("\\R");
        Check.due("how many answers README.md's lines give", got.length, due.size());
        for (int i = 0; i < Math.min(got.length, due.size()); i++) {
            boolean isNumber = got[i].matches("-?\\d{1,18}");
            Check.holds("README.md: " + asked.get(i) + " printed " + got[i], isNumber);
            Check.due("README.md: " + asked.get(i), isNumber ? Long.parseLong(got[i]) : 0, due.get(i));
        }
    }

    /** What the command printed. */
    private static String shell(Path folder, String command) throws IOException, InterruptedException {
        Process process = new ProcessBuilder("sh", "-c", command).directory(folder.toFile())
            .redirectError(ProcessBuilder.Redirect.INHERIT).start();
        String printed = new String(process.getInputStream().readAllBytes(), StandardCharsets.UTF_8);
        Check.due("exit code of " + command, process.waitFor(), 0);
        return printed;
    }

    private static void remove(Path folder) throws IOException {
        List<Path> all;
        try (var files = Files.walk(folder)) {
            all = files.toList();
        }
        for (int i = all.size() - 1; i >= 0; i--) {
            Files.delete(all.get(i));
        }
    }

    private static void everyCallIsShown(String readme) {
        List<String> shown = new ArrayList<>();
        for (List<String> box : boxes(readme, "java")) {
            for (String line : box) {
                Matcher m = CALL.matcher(line);
                if (m.matches()) {
                    shown.add(m.group(3));
                }
            }
        }
        for (Method m : SandLedger.class.getDeclaredMethods()) {
            if (Modifier.isPublic(m.getModifiers())) {
                Check.holds("README.md shows " + m.getName(), shown.contains(m.getName()));
            }
        }
    }

    private static void findingsAreNumberedAsTold(String readme) {
        String[] names = {"BEYOND", "FULL", "KIND", "NONE", "STATE", "MISSING", "SIZE"};
        int[] answers = {Check.BEYOND, Check.FULL, Check.KIND, Check.NONE, Check.STATE, Check.MISSING, Check.SIZE};
        for (int i = 0; i < names.length; i++) {
            String row = "\n| " + answers[i] + " | " + names[i] + " | " + i + " | ";
            Check.holds("README.md has a row" + row, readme.contains(row));
        }
    }

    // ---- the tests

    private static void commandRunsAllTests(String readme) throws IOException {
        String part = section(readme, "Tests");
        Check.holds("README.md names one command for the tests", boxes(part, "sh").equals(List.of(List.of("bash .ci/run"))));
        Check.holds(".ci/run can be run", Files.isExecutable(RUN));
        String run = read(RUN);
        Check.holds(".ci/run goes through the project's tests", run.contains("for test in src/test/java/*Test.java; do"));
        Check.holds(".ci/run goes through the shared tests", run.contains("shared=../shared/tests\n")
            && run.contains("for test in \"$shared\"/*.java; do"));
        try (DirectoryStream<Path> files = Files.newDirectoryStream(TESTS)) {
            for (Path file : files) {
                testIsRunAndNamed(file, part);
            }
        }
    }

    private static void testIsRunAndNamed(Path file, String part) throws IOException {
        String name = file.getFileName().toString();
        Check.holds(name + " is a Java file", name.endsWith(".java"));
        Check.holds(name + " has a main method just if .ci/run calls it",
            read(file).contains("public static void main(String[] args)") == name.endsWith("Test.java"));
        Check.holds("README.md names " + name, part.contains("`" + name.replace(".java", "") + "`"));
    }
}
