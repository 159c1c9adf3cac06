import java.io.IOException;
import java.lang.reflect.Method;
import java.nio.file.Files;
import java.nio.file.Path;
import java.util.List;

/** sentences.txt: it holds every sentence of the document, and each has tests that are there and are run. */
public final class SentencesTest {
    private static final Check CHECK = new Check();
    private static final Path SENTENCES = Path.of("src", "test", "sentences.txt");
    private static final Path TESTS = Path.of("src", "test", "java");
    private static final Path DOCUMENT = Path.of("..", "shared", "DOC.md");
    private static final int SHOWN = 60;

    public static void main(String[] args) throws IOException {
        List<String> lines = Files.readAllLines(SENTENCES);
        everySentenceHasATest(lines);
        sameAsTheDocument(lines);
        CHECK.finish();
    }

    private static boolean isSkipped(String line) {
        return line.isBlank() || line.startsWith("#");
    }

    private static boolean isSetIn(String line) {
        return line.startsWith(" ");
    }

    private static void everySentenceHasATest(List<String> lines) throws IOException {
        String words = "";
        boolean tested = true;
        for (String line : lines) {
            if (isSkipped(line)) {
                continue;
            }
            if (isSetIn(line)) {
                tested = true;
                testsAreThere(words, line.strip());
            } else {
                boolean goesOn = !tested;
                words = goesOn ? words + " " + line : line;
                tested = false;
            }
        }
        CHECK.same("a test for: " + words, tested, true);
    }

    private static void testsAreThere(String words, String names) throws IOException {
        if (names.startsWith("(")) {
            return;
        }
        for (String name : names.split(" +")) {
            int dot = name.indexOf('.');
            CHECK.same(name + " for: " + words, dot > 0 && isRun(name.substring(0, dot), name.substring(dot + 1)), true);
        }
    }

    /** A method that main does not come to would test nothing: it must be called somewhere in its file. */
    private static boolean isRun(String test, String method) throws IOException {
        Path file = TESTS.resolve(test + ".java");
        if (!test.endsWith("Test") || !Files.exists(file) || !hasMethod(test, method)) {
            return false;
        }
        String source = Files.readString(file);
        int told = source.split("\\b" + method + "\\(", -1).length - 1;
        return method.equals("main") || told >= 2;
    }

    private static boolean hasMethod(String test, String method) {
        try {
            for (Method m : Class.forName(test).getDeclaredMethods()) {
                if (m.getName().equals(method)) {
                    return true;
                }
            }
        } catch (ClassNotFoundException e) {
            return false;
        }
        return false;
    }

    private static void sameAsTheDocument(List<String> lines) throws IOException {
        if (!Files.exists(DOCUMENT)) {
            System.out.println(DOCUMENT + " is not there: sentences.txt is not compared with it");
            return;
        }
        String here = joined(lines.stream().filter(line -> !isSetIn(line)).toList());
        String due = joined(Files.readAllLines(DOCUMENT));
        int first = 0;
        while (first < here.length() && first < due.length() && here.charAt(first) == due.charAt(first)) {
            first++;
        }
        String place = due.substring(first, Math.min(first + SHOWN, due.length()));
        CHECK.same("sentences.txt is as the document, up to: " + place, here.equals(due), true);
    }

    /** The words alone, without headings and fences. */
    private static String joined(List<String> lines) {
        StringBuilder all = new StringBuilder();
        for (String line : lines) {
            if (!isSkipped(line) && !line.startsWith("```")) {
                all.append(line.strip()).append(' ');
            }
        }
        return all.toString();
    }
}
