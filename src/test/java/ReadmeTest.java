import java.io.IOException;
import java.lang.reflect.Field;
import java.lang.reflect.Method;
import java.lang.reflect.Modifier;
import java.nio.file.Files;
import java.nio.file.Path;
import java.util.Set;
import java.util.TreeSet;
import java.util.regex.MatchResult;
import java.util.regex.Matcher;
import java.util.regex.Pattern;
import java.util.stream.Collectors;
import java.util.stream.Stream;

/** README.md: that its calls answer what it says, and that it names every method, constant and test as it is. */
public final class ReadmeTest {
    private static final Path README = Path.of("README.md");
    private static final Path TESTS = Path.of("src/test/java");
    private static final Pattern CALL = Pattern.compile("stable\\.(\\w+)\\(([^)]*)\\); +// answers (-?\\d+)");
    private static final Pattern METHOD_ROW = Pattern.compile("(?m)^\\| `(\\w+)\\(([^)]*)\\)`");
    private static final Pattern CONSTANT_ROW = Pattern.compile("(?m)^\\| `LessonHorses\\.(\\w+)` \\| (-?\\d+) \\|");
    private static final Pattern TEST_ROW = Pattern.compile("(?m)^\\| .* \\| `(\\w+Test)` \\|$");

    private static final Due due = new Due("ReadmeTest");

    public static void main(String[] args) throws IOException, ReflectiveOperationException {
        String page = Files.readString(README);
        example(page);
        methods(page);
        constants(page);
        tests(page);
        due.holds("the bound of the calls is told", page.contains("512 calls"));
        due.finish();
    }

    private static void example(String page) throws ReflectiveOperationException {
        LessonHorses stable = new LessonHorses();
        int rows = 0;
        Matcher matcher = CALL.matcher(page);
        while (matcher.find()) {
            rows++;
            due.is(matcher.group(1) + "(" + matcher.group(2) + ")",
                    answer(stable, matcher.group(1), matcher.group(2)), Integer.parseInt(matcher.group(3)));
        }
        due.is("calls with an answer", rows, Pattern.compile("(?m)^stable\\.").matcher(page).results().count());
        due.holds("there is an example", rows > 0);
    }

    private static int answer(LessonHorses stable, String name, String list) throws ReflectiveOperationException {
        String[] words = list.isEmpty() ? new String[0] : list.split(", ");
        Object[] given = new Object[words.length];
        for (int i = 0; i < words.length; i++) {
            if (words[i].startsWith("'")) {
                given[i] = words[i].charAt(1);
            } else {
                given[i] = Integer.valueOf(words[i]);
            }
        }
        return (int) methodNamed(name).invoke(stable, given);
    }

    private static Method methodNamed(String name) {
        for (Method method : LessonHorses.class.getDeclaredMethods()) {
            if (method.getName().equals(name) && Modifier.isPublic(method.getModifiers())) {
                return method;
            }
        }
        throw new IllegalStateException("README.md names " + name + ", which is no method");
    }

    private static void methods(String page) {
        Set<String> told = METHOD_ROW.matcher(page).results()
                .map(row -> row.group(1) + ", " + parameters(row)).collect(Collectors.toCollection(TreeSet::new));
        Set<String> built = Stream.of(LessonHorses.class.getDeclaredMethods())
                .filter(method -> Modifier.isPublic(method.getModifiers()))
                .map(method -> method.getName() + ", " + method.getParameterCount())
                .collect(Collectors.toCollection(TreeSet::new));
        due.holds("the methods " + told + " are told", told.equals(built));
    }

    private static int parameters(MatchResult row) {
        return row.group(2).isEmpty() ? 0 : row.group(2).split(", ").length;
    }

    private static void constants(String page) throws ReflectiveOperationException {
        Matcher matcher = CONSTANT_ROW.matcher(page);
        int rows = 0;
        while (matcher.find()) {
            rows++;
            Field field = LessonHorses.class.getField(matcher.group(1));
            due.is(matcher.group(1), field.getInt(null), Integer.parseInt(matcher.group(2)));
        }
        due.is("constants told", rows, LessonHorses.class.getFields().length);
    }

    private static void tests(String page) throws IOException {
        Set<String> told = TEST_ROW.matcher(page).results()
                .map(row -> row.group(1)).collect(Collectors.toCollection(TreeSet::new));
        try (Stream<Path> files = Files.list(TESTS)) {
            Set<String> there = files.map(file -> file.getFileName().toString())
                    .filter(name -> name.endsWith("Test.java")).map(name -> name.replace(".java", ""))
                    .collect(Collectors.toCollection(TreeSet::new));
            due.holds("the tests " + told + " are told", told.equals(there));
        }
    }
}
