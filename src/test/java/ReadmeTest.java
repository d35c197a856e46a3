import java.io.BufferedReader;
import java.io.IOException;
import java.io.UncheckedIOException;
import java.lang.reflect.Method;
import java.nio.file.Files;
import java.nio.file.Path;
import java.util.ArrayList;
import java.util.List;
import java.util.Set;
import java.util.TreeSet;
import java.util.regex.Matcher;
import java.util.regex.Pattern;
import java.util.stream.IntStream;
import java.util.stream.Stream;

/** README.md: its example runs and answers as it says, and its tables fit the class and the tests. */
public final class ReadmeTest {
    private static final Path TESTS = Path.of("src/test/java");
    private static final List<String> README = linesOf(Path.of("README.md"));

    public static void main(String[] args) {
        Due.sentence("the example", ReadmeTest::example);
        Due.sentence("The calls", ReadmeTest::calls);
        Due.sentence("The attributes", ReadmeTest::attributes);
        Due.sentence("Tests", ReadmeTest::tests);
        Due.end();
    }

    private static List<String> linesOf(Path file) {
        try {
            return Files.readAllLines(file);
        } catch (IOException e) {
            throw new UncheckedIOException(e);
        }
    }

    private static void same(String what, Object got, Object want) {
        if (!got.equals(want)) {
            Due.tell(what + ": told are " + got + ", there are " + want);
        }
    }

    private static List<String> found(String pattern, String text) {
        List<String> all = new ArrayList<>();
        Matcher matcher = Pattern.compile(pattern).matcher(text);
        while (matcher.find()) {
            all.add(matcher.group(1));
        }
        return all;
    }

    private static void example() {
        int start = README.indexOf("```java") + 1;
        List<String> program = README.subList(start, start + README.subList(start, README.size()).indexOf("```"));
        List<String> told = new ArrayList<>();
        for (String line : program) {
            if (line.contains("println")) {
                told.addAll(found("; // ([^:]*)", line));
            }
        }
        try {
            same("answers", told, answersOf(program));
        } catch (IOException e) {
            Due.tell("it does not run: " + e);
        }
    }

    /** Made and run by the commands that README.md tells, but in a directory that goes again. */
    private static List<String> answersOf(List<String> program) throws IOException {
        Path dir = Files.createTempDirectory("readme");
        try {
            Path source = Files.write(dir.resolve("Example.java"), program);
            List<String> told = printedBy("javac", "-d", dir.toString(), "src/main/java/FontShelf.java",
                source.toString());
            told.addAll(printedBy("java", "-cp", dir.toString(), "Example"));
            return told;
        } finally {
            for (Path file : filesIn(dir)) {
                Files.delete(file);
            }
            Files.delete(dir);
        }
    }

    private static List<String> printedBy(String... command) throws IOException {
        Process process = new ProcessBuilder(command).redirectError(ProcessBuilder.Redirect.INHERIT).start();
        try (BufferedReader reader = process.inputReader()) {
            return new ArrayList<>(reader.lines().toList());
        }
    }

    private static List<Path> filesIn(Path dir) throws IOException {
        try (Stream<Path> files = Files.list(dir)) {
            return files.toList();
        }
    }

    /** A row of the table of calls as "name parameters [exceptions]", and the face in the same words. */
    private static void calls() {
        Set<String> told = new TreeSet<>();
        for (String line : README) {
            for (String call : found("^\\| `(\\w+\\(.*?\\))` \\|", line)) {
                String name = call.substring(0, call.indexOf('('));
                int parameters = call.endsWith("()") ? 0 : call.split(",").length;
                told.add(name + " " + parameters + " " + found("`(\\w+Exception)`", line));
            }
        }
        Set<String> face = new TreeSet<>(Set.of("FontShelf 0 []"));
        for (Method method : FontShelf.class.getMethods()) {
            if (method.getDeclaringClass() == FontShelf.class) {
                List<String> thrown = Stream.of(method.getExceptionTypes()).map(Class::getSimpleName).toList();
                face.add(method.getName() + " " + method.getParameterCount() + " " + thrown);
            }
        }
        same("calls", told, face);
    }

    private static void attributes() {
        int rows = 0;
        for (String line : README) {
            Matcher row = Pattern.compile("\\| (\\d) \\| [A-Z]+.* \\| (\\S+) \\| (\\S+) \\| (\\S+) \\|").matcher(line);
            if (row.matches()) {
                rows++;
                attribute(number(row, 1), number(row, 2), number(row, 3), number(row, 4));
            }
        }
        Due.is("rows", rows, 7);
    }

    private static int number(Matcher row, int group) {
        return Integer.parseInt(row.group(group));
    }

    private static void attribute(int w, int least, int greatest, int first) {
        FontShelf x = new FontShelf();
        for (int which = 0; which < 3; which++) {
            Due.is("first of attribute " + w, x.wish(which, w), first);
        }
        for (int end : new int[] {least, greatest}) {
            Due.yes("attribute " + w + " = " + end, x.attribute(false, 0, w, end));
        }
        for (int beyond : Make.outside(least, greatest)) {
            Due.no("attribute " + w + " = " + beyond, x.attribute(false, 0, w, beyond));
        }
    }

    private static void tests() {
        Set<String> told = new TreeSet<>(found("`(\\w+Test)`", String.join("\n", README)));
        Set<String> there = new TreeSet<>();
        try {
            for (Path file : filesIn(TESTS)) {
                there.addAll(found("^(\\w+Test)\\.java$", file.getFileName().toString()));
            }
        } catch (IOException e) {
            Due.tell("no tests: " + e);
        }
        same("tests", told, there);
        List<String> promises = new ArrayList<>();
        for (String line : README) {
            promises.addAll(found("^\\| (\\d+) .*? \\| `\\w+Test` \\|", line));
        }
        same("promises", promises, IntStream.rangeClosed(1, 16).mapToObj(Integer::toString).toList());
    }
}
