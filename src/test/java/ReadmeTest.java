import java.io.IOException;
import java.nio.file.Files;
import java.nio.file.Path;
import java.nio.file.StandardCopyOption;
import java.util.ArrayList;
import java.util.Comparator;
import java.util.List;
import java.util.Set;
import java.util.TreeSet;
import java.util.concurrent.TimeUnit;
import java.util.regex.Matcher;
import java.util.regex.Pattern;
import java.util.stream.Collectors;
import java.util.stream.Stream;

/** README.md as it stands: its example, its commands, what it says of .ci/run, and the names in it. */
public final class ReadmeTest {
    private static final Path CLASS = Path.of("src/main/java/LawfulSums.java"), TESTS = Path.of("src/test/java"), CI = Path.of(".ci/run");
    private static final String PASSES = "public final class %s { public static void main(String[] args) { new LawfulSums(); } }\n";
    private static final String FAILS = "public final class %s { public static void main(String[] args) { System.exit(1); } }\n";
    private static final String NO_JAVA = "public final class %s {\n";

    private final String page;
    private final Path room;

    private ReadmeTest(String page, Path room) {
        this.page = page;
        this.room = room;
    }

    public static void main(String[] args) throws Exception {
        Path room = Files.createTempDirectory("readme");
        try {
            ReadmeTest test = new ReadmeTest(Files.readString(Path.of("README.md")), room);
            test.example();
            test.oneTestAlone();
            test.allTests();
            test.names();
        } finally {
            remove(room);
        }
        Due.end("ReadmeTest");
    }

    private static void remove(Path room) throws IOException {
        try (Stream<Path> all = Files.walk(room)) {
            for (Path p : all.sorted(Comparator.reverseOrder()).collect(Collectors.toList())) {
                Files.delete(p);
            }
        }
    }

    // ---- blocks and commands

    /** The blocks of a language, in their order. */
    private List<String> blocks(String language) {
        List<String> all = new ArrayList<>();
        Matcher block = Pattern.compile("(?ms)^```" + language + "\n(.*?)^```$").matcher(page);
        while (block.find()) {
            all.add(block.group(1));
        }
        return all;
    }

    /** The one block of commands with this word in it. */
    private String commands(String word) {
        List<String> all = blocks("sh").stream().filter(b -> b.contains(word)).collect(Collectors.toList());
        Due.same("README: blocks of commands with " + word, all.size(), 1);
        return all.isEmpty() ? "exit 9" : all.get(0);
    }

    private static final class Ended {
        final int with;
        final List<String> printed;

        Ended(int with, List<String> printed) {
            this.with = with;
            this.printed = printed;
        }
    }

    private Ended run(Path from, String commands) throws Exception {
        Path printed = room.resolve("printed");
        Process p = new ProcessBuilder("sh", "-e", "-c", commands).directory(from.toFile()).redirectErrorStream(true)
            .redirectOutput(printed.toFile()).start();
        boolean ended = p.waitFor(300, TimeUnit.SECONDS);
        Due.holds("README: ends in time: " + commands, ended);
        if (!ended) {
            p.destroyForcibly();
        }
        return new Ended(ended ? p.exitValue() : -1, Files.readAllLines(printed));
    }

    private static void copy(Path file, Path project) throws IOException {
        Path to = project.resolve(file);
        Files.createDirectories(to.getParent());
        Files.copy(file, to, StandardCopyOption.COPY_ATTRIBUTES);
    }

    private static void write(Path file, String text) throws IOException {
        Files.createDirectories(file.getParent());
        Files.writeString(file, text);
    }

    // ---- what the page says

    private void example() throws Exception {
        Path project = room.resolve("example");
        copy(CLASS, project);
        List<String> java = blocks("java");
        Due.same("README: examples", java.size(), 1);
        write(project.resolve("Example.java"), java.get(0));
        Ended ended = run(project, commands("Example.java"));
        Due.same("README: the example's end " + ended.printed, ended.with, 0);
        List<String> due = new ArrayList<>(), lines = new ArrayList<>();
        Matcher line = Pattern.compile("println\\((.*)\\);\\s*// ([^:\n]*): ").matcher(java.get(0));
        while (line.find()) {
            lines.add(line.group(1));
            due.add(line.group(2));
        }
        Due.same("README: answers that are told, of those printed", due.size(), java.get(0).split("println").length - 1);
        Due.same("README: lines printed", ended.printed.size(), due.size());
        for (int i = 0; i < due.size() && i < ended.printed.size(); i++) {
            String got = ended.printed.get(i);
            Due.holds("README: " + lines.get(i) + " is told to answer " + due.get(i) + ", not " + got, due.get(i).equals(got));
        }
    }

    private void oneTestAlone() throws Exception {
        Path project = room.resolve("alone");
        copy(CLASS, project);
        for (Path file : filesIn(TESTS, ".java")) {
            copy(file, project);
        }
        Ended ended = run(project, commands("SumsTest"));
        Due.same("README: one test alone " + ended.printed, ended.with, 0);
        Due.holds("README: it is SumsTest " + ended.printed, ended.printed.stream().anyMatch(l -> l.matches("SumsTest: .* 0 not")));
    }

    /** .ci/run in small projects, so that it does not run itself. */
    private void allTests() throws Exception {
        Due.holds(".ci/run can be run", Files.isExecutable(CI));
        ends("all pass", PASSES, PASSES, PASSES, 0);
        ends("a test of the project fails", FAILS, PASSES, PASSES, 1);
        ends("the first shared test fails", PASSES, FAILS, PASSES, 1);
        ends("the last shared test fails", PASSES, PASSES, FAILS, 1);
        ends("a test of the project does not compile", NO_JAVA, PASSES, PASSES, 1);
        ends("a shared test does not compile", PASSES, NO_JAVA, PASSES, 1);
        Path project = project("no shared tests", PASSES);
        Due.same("README: .ci/run where no ../shared/tests is", run(project, commands(".ci/run")).with, 1);
        write(project.resolve("../shared/tests/Shared.java").normalize(), String.format(PASSES, "Shared"));
        Due.same("README: .ci/run from anywhere", run(room, "sh '" + project.resolve(CI) + "'").with, 0);
    }

    private void ends(String title, String own, String first, String last, int due) throws Exception {
        Path project = project(title, own);
        Path shared = project.resolve("../shared/tests").normalize();
        write(shared.resolve("First.java"), String.format(first, "First"));
        write(shared.resolve("Last.java"), String.format(last, "Last"));
        Ended ended = run(project, commands(".ci/run"));
        Due.same("README: .ci/run, " + title + " " + ended.printed, ended.with, due);
        if (due == 0) {
            for (String name : List.of("OwnTest", "First", "Last")) {
                Due.holds(".ci/run runs " + name + " " + ended.printed, ended.printed.contains("== " + name));
            }
        }
    }

    private Path project(String title, String own) throws IOException {
        Path project = room.resolve(title).resolve("main");
        copy(CI, project);
        copy(CLASS, project);
        write(project.resolve(TESTS).resolve("OwnTest.java"), String.format(own, "OwnTest"));
        return project;
    }

    private static List<Path> filesIn(Path directory, String end) throws IOException {
        try (Stream<Path> all = Files.list(directory)) {
            return all.filter(p -> p.toString().endsWith(end)).collect(Collectors.toList());
        }
    }

    private void names() throws IOException {
        Set<String> told = new TreeSet<>(), there = new TreeSet<>();
        Matcher test = Pattern.compile("`(\\w+Test)`").matcher(page);
        while (test.find()) {
            told.add(test.group(1));
        }
        for (Path file : filesIn(TESTS, "Test.java")) {
            there.add(file.getFileName().toString().replace(".java", ""));
        }
        Due.holds("README: the tests are " + there + ", not " + told, told.equals(there));
        for (Class<?> c : LawfulSums.class.getDeclaredClasses()) {
            Due.holds("README: names " + c.getSimpleName(), page.contains("`" + c.getSimpleName() + "`"));
        }
        Matcher path = Pattern.compile("`((?:\\.\\./|\\.ci/|src/)[^`*]*)(?:\\*[^`]*)?`").matcher(page);
        while (path.find()) {
            Due.holds("README: there is " + path.group(1), Files.exists(Path.of(path.group(1))));
        }
    }
}
