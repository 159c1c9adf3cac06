import java.io.IOException;
import java.io.UncheckedIOException;
import java.net.URL;
import java.net.URLClassLoader;
import java.nio.file.Files;
import java.nio.file.Path;
import java.util.ArrayList;
import java.util.Comparator;
import java.util.List;
import java.util.regex.Matcher;
import java.util.regex.Pattern;
import java.util.stream.Stream;

/** README.md: its example is compiled and run, and gives the answers that it says; its table names every test. */
public final class ReadmeTest {
    private static final Check CHECK = new Check();
    private static final Path README = Path.of("README.md");
    private static final Path TESTS = Path.of("src", "test", "java");
    /** A line with an answer: the call, and what stands behind the arrow. */
    private static final Pattern ANSWERED =
        Pattern.compile("(chip\\..*\\));\\s*// => (throws )?([A-Za-z0-9-]+)( \\(.*\\))?");
    private static final String[] METHODS = {"poke", "peek", "cycle", "cycles", "pin", "reset", "register", "set"};

    private final List<String> body = new ArrayList<>();
    private final List<String> calls = new ArrayList<>();
    private final List<String> due = new ArrayList<>();

    public static void main(String[] args) throws Exception {
        List<String> lines = Files.readAllLines(README);
        new ReadmeTest().example(lines);
        howToRunTheTests(lines);
        everyTestIsNamed(String.join("\n", lines));
        CHECK.finish();
    }

    private void example(List<String> lines) throws Exception {
        boolean inside = false;
        for (String line : lines) {
            if (line.startsWith("```")) {
                inside = line.equals("```java");
            } else if (inside) {
                take(line.strip());
            }
        }
        everyMethodIsShown();
        List<String> got = run();
        CHECK.same("answers", got.size(), due.size());
        for (int i = 0; i < got.size(); i++) {
            boolean same = got.get(i).equals(due.get(i));
            CHECK.same(calls.get(i) + " gives " + got.get(i) + ", README.md says " + due.get(i), same, true);
        }
    }

    private void take(String line) {
        Matcher answered = ANSWERED.matcher(line);
        if (!answered.matches()) {
            CHECK.same("an answer that cannot be read: " + line, line.contains("=>"), false);
            body.add(line);
            return;
        }
        String call = answered.group(1);
        calls.add(call);
        if (answered.group(2) == null) {
            due.add(answered.group(3));
            body.add("got.add(String.valueOf(" + call + "));");
        } else {
            due.add("throws " + answered.group(3));
            body.add("try { " + call + "; got.add(\"throws nothing\"); }");
            body.add("catch (RuntimeException e) { got.add(\"throws \" + e.getClass().getSimpleName()); }");
        }
    }

    private void everyMethodIsShown() {
        String all = String.join("\n", body);
        for (String method : METHODS) {
            CHECK.same("the example shows " + method, all.contains("chip." + method + "("), true);
        }
        CHECK.same("the example tells answers", calls.size() >= METHODS.length, true);
    }

    private List<String> run() throws Exception {
        Path folder = Files.createTempDirectory("readme");
        try {
            Path source = folder.resolve("ReadmeExample.java");
            Files.writeString(source, "public final class ReadmeExample {\n"
                + "public static void run(java.util.List<String> got) {\n" + String.join("\n", body) + "\n}\n}\n");
            if (!compiles(source, folder)) {
                return new ArrayList<>();
            }
            return answers(folder);
        } finally {
            delete(folder);
        }
    }

    private static boolean compiles(Path source, Path folder) throws Exception {
        Process javac = new ProcessBuilder("javac", "-d", folder.toString(), "-cp",
            System.getProperty("java.class.path"), source.toString()).redirectErrorStream(true).start();
        String told = new String(javac.getInputStream().readAllBytes());
        boolean good = javac.waitFor() == 0;
        CHECK.same("the example compiles: " + told, good, true);
        return good;
    }

    private static List<String> answers(Path folder) throws Exception {
        List<String> got = new ArrayList<>();
        URL[] place = {folder.toUri().toURL()};
        try (URLClassLoader loader = new URLClassLoader(place, ReadmeTest.class.getClassLoader())) {
            loader.loadClass("ReadmeExample").getMethod("run", List.class).invoke(null, got);
        }
        return got;
    }

    private static void delete(Path folder) throws IOException {
        try (Stream<Path> all = Files.walk(folder)) {
            all.sorted(Comparator.reverseOrder()).forEach(ReadmeTest::deleteOne);
        }
    }

    private static void deleteOne(Path path) {
        try {
            Files.delete(path);
        } catch (IOException e) {
            throw new UncheckedIOException(e);
        }
    }

    private static void howToRunTheTests(List<String> lines) {
        CHECK.same("how to use it", lines.contains("## How to use it"), true);
        CHECK.same("how to run its tests", lines.contains("## How to run its tests"), true);
        CHECK.same("the script", lines.contains(".ci/run"), true);
        CHECK.same("the script can be run", Files.isExecutable(Path.of(".ci", "run")), true);
    }

    /** Each test of the project has its row, and each row its test. */
    private static void everyTestIsNamed(String readme) throws IOException {
        try (Stream<Path> files = Files.list(TESTS)) {
            for (Path file : files.toList()) {
                String name = file.getFileName().toString().replace(".java", "");
                if (name.endsWith("Test")) {
                    CHECK.same("README.md names " + name, readme.contains("\n| " + name + " |"), true);
                }
            }
        }
        Matcher rows = Pattern.compile("\n\\| ([A-Za-z]+Test) \\|").matcher(readme);
        while (rows.find()) {
            Path file = TESTS.resolve(rows.group(1) + ".java");
            CHECK.same("there is " + file, Files.exists(file), true);
        }
    }
}
