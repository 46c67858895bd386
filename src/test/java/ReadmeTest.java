import java.io.IOException;
import java.lang.reflect.Field;
import java.lang.reflect.Method;
import java.lang.reflect.Modifier;
import java.nio.file.Files;
import java.nio.file.Path;
import java.util.ArrayList;
import java.util.Arrays;
import java.util.List;
import java.util.TreeSet;
import java.util.regex.MatchResult;
import java.util.regex.Pattern;
import java.util.stream.Stream;

/** What README.md says is true of the class and of the tests; to be run from the project's folder. */
public final class ReadmeTest {
    private static final Path TESTS = Path.of("src/test/java");
    private static final Pattern EXAMPLE = Pattern.compile("(?m)^group\\.(\\w+)\\((.*?)\\); *// *(true|false|-?\\d+)(:|$)");
    private static final Pattern CALL = Pattern.compile("(?m)^\\| `(\\w+)\\((.*?)\\)` \\|");
    private static final Pattern CONSTANT = Pattern.compile("(?m)^\\| `([A-Z]+)` \\| (-?\\d+) \\|");
    private static final Pattern INSTRUCTION = Pattern.compile("(?m)^\\| (\\d) ([A-Z]+) \\|");
    private static final Pattern FILE = Pattern.compile("`(\\w+Test|(?!ReplayGroup)\\w+\\.java)`");

    private final Due due = new Due("ReadmeTest");
    private final String text;

    private ReadmeTest(String text) {
        this.text = text;
    }

    public static void main(String[] args) throws IOException, ReflectiveOperationException {
        ReadmeTest test = new ReadmeTest(Files.readString(Path.of("README.md")));
        test.exampleAnswersAsItSays();
        test.everyCallIsNamed();
        test.constantsHaveTheirNumbers();
        test.instructionsHaveTheirNumbers();
        test.everyTestIsNamed();
        test.due.end();
    }

    private List<MatchResult> all(Pattern pattern) {
        return pattern.matcher(text).results().toList();
    }

    private void exampleAnswersAsItSays() throws ReflectiveOperationException {
        due.begin("the example");
        ReplayGroup group = new ReplayGroup();
        for (MatchResult line : all(EXAMPLE)) {
            String call = line.group(1) + "(" + line.group(2) + ")";
            due.is(call + " answers " + line.group(3), answer(group, line).equals(line.group(3)), true);
        }
        long lines = text.lines().filter(line -> line.startsWith("group.")).count();
        due.is("lines with an answer", all(EXAMPLE).size(), lines);
        due.is("there are some", lines > 0, true);
    }

    private static String answer(ReplayGroup group, MatchResult line) throws ReflectiveOperationException {
        List<Object> numbers = new ArrayList<>();
        for (String number : namesIn(line.group(2))) {
            numbers.add(Integer.valueOf(number));
        }
        Class<?>[] types = new Class<?>[numbers.size()];
        Arrays.fill(types, int.class);
        return String.valueOf(ReplayGroup.class.getMethod(line.group(1), types).invoke(group, numbers.toArray()));
    }

    private static String[] namesIn(String list) {
        return list.isEmpty() ? new String[0] : list.split(", ");
    }

    private void everyCallIsNamed() {
        due.begin("the calls");
        TreeSet<String> named = new TreeSet<>();
        for (MatchResult row : all(CALL)) {
            named.add(row.group(1) + " of " + namesIn(row.group(2)).length);
        }
        TreeSet<String> want = new TreeSet<>();
        for (Method m : ReplayGroup.class.getDeclaredMethods()) {
            if (Modifier.isPublic(m.getModifiers())) {
                want.add(m.getName() + " of " + m.getParameterCount());
            }
        }
        due.is(named + " against " + want, named.equals(want), true);
    }

    private void constantsHaveTheirNumbers() throws ReflectiveOperationException {
        due.begin("the constants");
        int open = 0;
        for (Field f : ReplayGroup.class.getDeclaredFields()) {
            open += Modifier.isPublic(f.getModifiers()) ? 1 : 0;
        }
        due.is("how many", all(CONSTANT).size(), open);
        for (MatchResult row : all(CONSTANT)) {
            due.is(row.group(1), Integer.parseInt(row.group(2)), ReplayGroup.class.getField(row.group(1)).getInt(null));
        }
    }

    /** The class does not show its instructions; the scenes name those that all tests write. */
    private void instructionsHaveTheirNumbers() throws ReflectiveOperationException {
        due.begin("the instructions");
        due.is("how many", all(INSTRUCTION).size(), 8);
        for (MatchResult row : all(INSTRUCTION)) {
            due.is(row.group(2), Integer.parseInt(row.group(1)), Scenes.class.getDeclaredField(row.group(2)).getInt(null));
        }
    }

    private void everyTestIsNamed() throws IOException {
        due.begin("the tests");
        TreeSet<String> named = new TreeSet<>();
        for (MatchResult name : all(FILE)) {
            named.add(name.group(1).replace(".java", ""));
        }
        TreeSet<String> want = new TreeSet<>();
        try (Stream<Path> files = Files.list(TESTS)) {
            files.forEach(file -> want.add(file.getFileName().toString().replace(".java", "")));
        }
        due.is(named + " against " + want, named.equals(want), true);
    }
}
