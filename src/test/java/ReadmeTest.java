import java.io.ByteArrayOutputStream;
import java.io.IOException;
import java.io.PrintStream;
import java.lang.reflect.Field;
import java.lang.reflect.Method;
import java.lang.reflect.Modifier;
import java.nio.charset.StandardCharsets;
import java.nio.file.Files;
import java.nio.file.Path;
import java.util.Set;
import java.util.TreeSet;
import java.util.regex.Matcher;
import java.util.regex.Pattern;
import java.util.stream.Stream;

/** What README.md says of its example, the calls, the refusals and the tests is so. */
public final class ReadmeTest {
    private static final Path TESTS = Path.of("src/test/java");

    /** The lines between the marks are those of the README, where the checks read them again. */
    private static void example() {
        // README begins
        StrandMapper mapper = new StrandMapper();
        for (int b : new int[] {0, 1, 2, 3, 4, 0, 1, 1}) {
            mapper.base(b);                             // the genome ACGTNACC
        }
        for (int b : new int[] {0, 1, 1}) {
            mapper.read(b);                             // the read ACC
        }
        int hits = mapper.map(1);                       // at most one mismatch
        System.out.println("hits: " + hits);
        System.out.println("place of the last one: " + mapper.hit(hits - 1, 0));
        int size = mapper.size();                       // asked once, for each call counts
        for (int k = 0; k < size; k++) {
            System.out.print((char) mapper.at(k));
        }
        // README ends
    }

    private static String read(Path file) throws IOException {
        return Files.readString(file, StandardCharsets.UTF_8);
    }

    /** What stands between the two, or a word for the check that fails then. */
    private static String between(String text, String begin, String end) {
        int from = text.indexOf(begin);
        int to = from < 0 ? -1 : text.indexOf(end, from + begin.length());
        return to < 0 ? "nothing" : text.substring(from + begin.length(), to);
    }

    private static String printedByTheExample() {
        PrintStream before = System.out;
        ByteArrayOutputStream printed = new ByteArrayOutputStream();
        System.setOut(new PrintStream(printed, true, StandardCharsets.UTF_8));
        example();
        System.setOut(before);
        return printed.toString(StandardCharsets.UTF_8).replace("\r", "");
    }

    private static void exampleIsSo(String readme) throws IOException {
        Check.sentence("the example");
        String source = read(TESTS.resolve("ReadmeTest.java"));
        String run = between(source, "        // README begins\n", "        // README ends\n");
        Check.due("its code", between(readme, "```java\n", "```").strip(), run.stripTrailing().stripIndent());
        Check.due("what it prints", between(readme, "```text\n", "```"), printedByTheExample());
    }

    private static void allCallsAreNamed(String readme) {
        Check.sentence("the calls");
        for (Method m : StrandMapper.class.getDeclaredMethods()) {
            if (Modifier.isPublic(m.getModifiers())) {
                Check.due(m.getName() + " is named", readme.contains("`" + m.getName() + "("), true);
            }
        }
        Check.due("the calls of an object are named", readme.contains("at most 512 calls"), true);
    }

    private static void allRefusalsAreNamed(String readme) throws IllegalAccessException {
        Check.sentence("the refusals");
        for (Field f : StrandMapper.class.getFields()) {
            String row = "| `" + f.getName() + "` | " + f.getInt(null) + " |";
            Check.due(row + " is there", readme.contains(row), true);
        }
    }

    private static void allTestsAreNamed(String readme) throws IOException {
        Check.sentence("the tests");
        Set<String> named = new TreeSet<>();
        Matcher names = Pattern.compile("^- `(\\w+\\.java)`", Pattern.MULTILINE).matcher(readme);
        while (names.find()) {
            named.add(names.group(1));
        }
        Set<String> there = new TreeSet<>();
        try (Stream<Path> files = Files.list(TESTS)) {
            files.forEach(file -> there.add(file.getFileName().toString()));
        }
        Check.due("their names", named.toString(), there.toString());
    }

    public static void main(String[] args) throws IOException, IllegalAccessException {
        String readme = read(Path.of("README.md"));
        exampleIsSo(readme);
        allCallsAreNamed(readme);
        allRefusalsAreNamed(readme);
        allTestsAreNamed(readme);
        Check.end();
    }
}
