import java.io.IOException;
import java.lang.reflect.Method;
import java.lang.reflect.Modifier;
import java.nio.file.Files;
import java.nio.file.Path;
import java.nio.file.StandardCopyOption;
import java.util.ArrayList;
import java.util.List;
import java.util.Set;
import java.util.TreeSet;
import java.util.concurrent.TimeUnit;
import java.util.regex.Matcher;
import java.util.regex.Pattern;
import java.util.stream.Stream;

/** README.md's own words are tried as they stand there, in a copy of the project with ../shared beside it. */
public final class ReadmeTest {
    private static final Due due = new Due();
    private static final Path TESTS = Path.of("src/test/java");
    private static final String FAILING = "public final class NAME {\n    public static void main(String[] args) {\n"
            + "        System.exit(1);\n    }\n}\n";

    /** What a command printed, and its exit code. */
    private record Ran(String printed, int exit) { }

    private final String readme;
    private final Path main;
    private final Path shared;

    private ReadmeTest(Path room) throws IOException {
        readme = Files.readString(Path.of("README.md"));
        main = room.resolve("main");
        shared = room.resolve("shared");
        copy(Path.of(".ci"), main.resolve(".ci"));
        copy(Path.of("src"), main.resolve("src"));
        copy(Path.of("../shared"), shared);
        leaveOnlyTestsOfCommands();
    }

    public static void main(String[] args) throws Exception {
        Path room = Files.createTempDirectory("readme");
        try {
            ReadmeTest test = new ReadmeTest(room);
            test.blocks();
            test.failures();
            test.tables();
        } finally {
            remove(room);
        }
        due.end();
    }

    // ---- the copy

    private static List<Path> under(Path folder) throws IOException {
        try (Stream<Path> all = Files.walk(folder)) {
            return new ArrayList<>(all.toList());
        }
    }

    private static void copy(Path from, Path to) throws IOException {
        for (Path p : under(from)) {
            Path at = to.resolve(from.relativize(p).toString());
            if (Files.isDirectory(p)) {
                Files.createDirectories(at);
            } else {
                Files.copy(p, at, StandardCopyOption.COPY_ATTRIBUTES);
            }
        }
    }

    private static void remove(Path folder) throws IOException {
        List<Path> all = under(folder);
        for (int i = all.size() - 1; i >= 0; i--) Files.delete(all.get(i));
    }

    /** So that .ci/run comes to an end there: it would run this test again, and that one the next. */
    private void leaveOnlyTestsOfCommands() throws IOException {
        Set<String> named = new TreeSet<>();
        for (String[] block : blocksOf(readme)) {
            if (!block[0].equals("sh")) continue;
            Matcher m = Pattern.compile(TESTS + "/(\\w+)\\.java").matcher(block[1]);
            while (m.find()) named.add(m.group(1));
        }
        due.isTrue(!named.isEmpty() && !named.remove("ReadmeTest"), "tests that the page's commands name: " + named);
        for (String name : testNames()) {
            if (!named.contains(name)) Files.delete(main.resolve(TESTS).resolve(name + ".java"));
        }
    }

    private static Set<String> testNames() throws IOException {
        Set<String> names = new TreeSet<>();
        for (Path p : under(TESTS)) {
            String name = p.getFileName().toString();
            if (name.endsWith("Test.java")) names.add(name.substring(0, name.length() - 5));
        }
        return names;
    }

    // ---- what stands there

    /** Each block of the page: its language, and its text. */
    private static List<String[]> blocksOf(String page) {
        List<String[]> blocks = new ArrayList<>();
        Matcher m = Pattern.compile("(?s)```(\\w*)\n(.*?)```").matcher(page);
        while (m.find()) blocks.add(new String[] {m.group(1), m.group(2)});
        return blocks;
    }

    private Ran run(String commands) throws Exception {
        Path printed = Files.createTempFile("printed", ".txt");
        Process p = new ProcessBuilder("sh", "-e", "-c", commands).directory(main.toFile()).redirectErrorStream(true)
                .redirectOutput(printed.toFile()).start();
        p.getOutputStream().close();
        if (!p.waitFor(10, TimeUnit.MINUTES)) p.destroyForcibly().waitFor();
        Ran ran = new Ran(Files.readString(printed), p.exitValue());
        Files.delete(printed);
        return ran;
    }

    /** Programs are written, commands run, and what they are said to print is what they print, block by block. */
    private void blocks() throws Exception {
        int programs = 0, commands = 0, outputs = 0, wholeRuns = 0;
        Ran last = new Ran("", -1);
        for (String[] block : blocksOf(readme)) {
            switch (block[0]) {
                case "java" -> {
                    programs++;
                    Files.writeString(main.resolve("Mine.java"), block[1]);
                }
                case "sh" -> {
                    commands++;
                    last = run(block[1]);
                    due.is(0, last.exit(), block[1] + last.printed());
                    if (block[1].equals(".ci/run\n")) {
                        wholeRuns++;
                        due.isTrue(lastLine(last).matches("[1-9]\\d* passed, 0 failed"), "the last line: " + lastLine(last));
                    }
                }
                case "text" -> {
                    outputs++;
                    due.isTrue(block[1].equals(last.printed()), "it prints:\n" + last.printed());
                }
                default -> due.isTrue(false, "a block of '" + block[0] + "' is not tried");
            }
        }
        due.is(1, programs, "programs");
        due.is(1, outputs, "outputs");
        due.is(1, wholeRuns, "blocks with .ci/run");
        due.isTrue(commands >= 4, commands + " blocks of commands");
    }

    private static String lastLine(Ran ran) {
        String[] lines = ran.printed().split("\n");
        return lines[lines.length - 1];
    }

    // ---- "with exit code 0 only if none failed"

    private void failures() throws Exception {
        for (String name : testNames()) Files.deleteIfExists(main.resolve(TESTS).resolve(name + ".java"));
        fails("no test of the project is left");
        Path good = main.resolve(TESTS).resolve("GoodTest.java");
        Files.writeString(good, FAILING.replace("NAME", "GoodTest").replace("exit(1)", "exit(0)"));
        due.is(0, run(".ci/run").exit(), ".ci/run with a test that does not fail");
        failsWith(main.resolve(TESTS).resolve("BadTest.java"), "a test of the project that fails");
        Files.createDirectories(shared.resolve("tests"));
        failsWith(shared.resolve("tests/Bad.java"), "a test under ../shared/tests that fails");
        Path broken = main.resolve(TESTS).resolve("BrokenTest.java");
        Files.writeString(broken, "public final class BrokenTest {");
        fails("a test that is no Java");
        Files.delete(broken);
        due.is(0, run(".ci/run").exit(), ".ci/run with them taken away again");
    }

    private void failsWith(Path test, String what) throws Exception {
        String name = test.getFileName().toString().replace(".java", "");
        Files.writeString(test, FAILING.replace("NAME", name));
        fails(what);
        Files.delete(test);
    }

    private void fails(String what) throws Exception {
        Ran ran = run(".ci/run");
        due.isTrue(ran.exit() != 0 && lastLine(ran).endsWith(", 1 failed"), what + ": exit " + ran.exit() + ", " + lastLine(ran));
    }

    // ---- the tables: every call in the class's order, every test

    private void tables() throws IOException {
        String use = readme.substring(readme.indexOf("| for | calls |"), readme.indexOf("## Tests"));
        List<String> told = new ArrayList<>();
        Matcher m = Pattern.compile("`(\\w+)`").matcher(use.substring(0, use.indexOf("\n\n")));
        while (m.find()) told.add(m.group(1));
        List<String> calls = new ArrayList<>();
        m = Pattern.compile("    public int (\\w+)\\(").matcher(Files.readString(Path.of("src/main/java/DuelLetters.java")));
        while (m.find()) calls.add(m.group(1));
        due.isTrue(calls.equals(told), "calls " + told + " for " + calls);
        due.is(calls.size(), (int) Stream.of(DuelLetters.class.getDeclaredMethods()).map(Method::getModifiers)
                .filter(Modifier::isPublic).count(), "public methods");
        Set<String> rows = new TreeSet<>();
        m = Pattern.compile("(?m)^\\| (\\w+Test) \\|").matcher(readme);
        while (m.find()) rows.add(m.group(1));
        due.isTrue(rows.equals(testNames()), "tests " + rows + " for " + testNames());
    }
}
