import java.io.IOException;
import java.lang.reflect.Field;
import java.lang.reflect.Method;
import java.lang.reflect.Modifier;
import java.nio.file.Files;
import java.nio.file.Path;
import java.util.ArrayList;
import java.util.HashSet;
import java.util.List;
import java.util.Set;
import java.util.regex.Matcher;
import java.util.regex.Pattern;

/** The rules of LANGUAGE.md that can be seen in the text of the program, in its classes, or in the room that it takes. */
public final class LanguageTest {
    private static final String SOURCE = "src/main/java/LessonHorses.java";
    private static final String[] FORBIDDEN = {"throw", "throws", "try", "catch", "finally", "synchronized", "assert",
            "package", "import", "transient", "volatile", "native", "protected", "Object", "hashCode", "toString",
            "System\\.out", "System\\.in", "System\\.exit", "Random", "Thread", "Float", "Double", "Exception", "Error"};
    private static final Set<Class<?>> CONSTANT_TYPES = Set.of(int.class, long.class, boolean.class, char.class,
            String.class, int[].class, long[].class, char[].class, byte[].class);

    private static final Due due = new Due("LanguageTest");

    public static void main(String[] args) throws IOException {
        String text = Files.readString(Path.of(SOURCE));
        String code = text.replaceAll("(?s)/\\*.*?\\*/", "").replaceAll("//[^\n]*", "");
        words(code);
        shape(code);
        methodsAreShort(text);
        classes();
        nothingIsMadeByCalls();
        due.finish();
    }

    private static void words(String code) {
        for (String word : FORBIDDEN) {
            Matcher matcher = Pattern.compile("\\b" + word + "\\b").matcher(code);
            due.holds("there is no " + word, !matcher.find());
        }
        due.is("index of a lambda", code.indexOf("->"), -1);
        due.is("index of a method reference", code.indexOf("::"), -1);
        due.is("index of a text", code.indexOf('"'), -1);
        due.is("index of an annotation", code.indexOf('@'), -1);
        for (int i = 0; i < code.length(); i++) {
            if (code.charAt(i) > 126) {
                due.is("sign at " + i, code.charAt(i), ' ');
            }
        }
    }

    private static void shape(String code) {
        due.is("public classes", found(code, "\\bpublic\\b[^(;]*\\bclass\\b"), 1);
        due.holds("at most twelve classes", found(code, "\\bclass\\b") <= 12);
        due.is("loops without a counter", found(code, "\\bwhile\\b|\\bdo\\b|for \\(;"), 0);
    }

    private static int found(String code, String pattern) {
        return (int) Pattern.compile(pattern).matcher(code).results().count();
    }

    private static void methodsAreShort(String text) {
        int begin = 0;
        int line = 0;
        for (String row : text.split("\n")) {
            line++;
            if (row.matches(" {4}( {4})?\\S.*\\) \\{")) {
                begin = line;
            }
            if (row.matches(" {4}( {4})?}")) {
                due.holds("the method behind line " + begin + " is short", line - begin <= 60 || begin == 0);
                begin = 0;
            }
        }
    }

    private static void classes() {
        List<Class<?>> all = new ArrayList<>(List.of(LessonHorses.class.getDeclaredClasses()));
        for (Class<?> inside : all) {
            due.holds(inside + " is static", Modifier.isStatic(inside.getModifiers()));
            due.holds(inside + " is not public", !Modifier.isPublic(inside.getModifiers()));
        }
        all.add(LessonHorses.class);
        Set<String> face = new HashSet<>();
        for (Method method : LessonHorses.class.getDeclaredMethods()) {
            if (Modifier.isPublic(method.getModifiers())) {
                face.add(method.getName());
            }
        }
        for (Class<?> each : all) {
            fields(each);
            for (Method method : each.getDeclaredMethods()) {
                due.holds(method + " takes at most seven", method.getParameterCount() <= 7);
                due.holds(method + " bears no name of the face",
                        Modifier.isPublic(method.getModifiers()) || !face.contains(method.getName()));
            }
        }
    }

    private static void fields(Class<?> each) {
        int changing = 0;
        for (Field field : each.getDeclaredFields()) {
            if (Modifier.isStatic(field.getModifiers())) {
                due.holds(field + " is a constant", Modifier.isFinal(field.getModifiers())
                        && CONSTANT_TYPES.contains(field.getType()));
            } else {
                changing++;
            }
        }
        due.holds(each + " has at most twenty fields", changing <= 20);
    }

    /** Whatever a run makes stays in one room, so all rows are made by the constructor. */
    private static void nothingIsMadeByCalls() {
        if (!(java.lang.management.ManagementFactory.getThreadMXBean()
                instanceof com.sun.management.ThreadMXBean threads)) {
            return;
        }
        LessonHorses stable = new LessonHorses();
        callEverything(stable);
        long before = threads.getCurrentThreadAllocatedBytes();
        for (int round = 0; round < 20; round++) {
            callEverything(stable);
        }
        long made = threads.getCurrentThreadAllocatedBytes() - before;
        due.holds("bytes made by 20 rounds: " + made, made < 20_000);
    }

    private static void callEverything(LessonHorses stable) {
        for (int rider = 0; rider < 12; rider++) {
            stable.book(rider, rider % 3, rider);
            stable.setRider(rider, 40 + rider, 3);
            stable.takenIn(rider % 10, rider);
        }
        stable.clearText();
        stable.type('+');
        stable.type('9');
        stable.type('/');
        stable.type('0');
        stable.type(':');
        stable.type('0');
        stable.bookPlan();
        stable.setHorse(0, 99, 1);
        stable.set(0, 4);
        stable.ifPassed(99, 0);
        stable.keep();
        stable.pass(99);
        stable.restore();
        stable.cancel(5, 5);
        stable.undo();
        stable.busiest();
        stable.best(0);
        for (int what = 0; what < 19; what++) {
            stable.count(what);
            stable.horse(0, what);
            stable.rider(0, what);
            stable.lesson(0, 0, what);
            stable.fall(0, what);
            stable.reason(what, 0);
        }
    }
}
