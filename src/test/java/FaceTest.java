import java.lang.reflect.Constructor;
import java.lang.reflect.Field;
import java.lang.reflect.Method;
import java.lang.reflect.Modifier;
import java.util.ArrayList;
import java.util.Arrays;
import java.util.Collections;
import java.util.List;

/** The public face, to the letter, and that nothing else can be seen from outside. */
public final class FaceTest {
    private static final List<String> FACE = Arrays.asList(
            "setHorse(int, int, int)", "setRider(int, int, int)", "set(int, int)",
            "book(int, int, int)", "cancel(int, int)", "pass(int)",
            "type(char)", "clearText()", "bookPlan()",
            "undo()", "keep()", "restore()",
            "horse(int, int)", "rider(int, int)", "lesson(int, int, int)", "fall(int, int)",
            "reason(int, int)", "best(int)", "takenIn(int, int)", "ifPassed(int, int)", "busiest()", "count(int)");

    private static final Due due = new Due("FaceTest");

    public static void main(String[] args) {
        constants();
        methods();
        classAndConstructor();
        due.finish();
    }

    private static void constants() {
        due.is("UNKNOWN", LessonHorses.UNKNOWN, -1);
        due.is("BAD_VALUE", LessonHorses.BAD_VALUE, -2);
        due.is("FULL", LessonHorses.FULL, -3);
        due.is("NOT_POSSIBLE", LessonHorses.NOT_POSSIBLE, -4);
        due.is("NONE", LessonHorses.NONE, -5);
        int seen = 0;
        for (Field field : LessonHorses.class.getDeclaredFields()) {
            int modifiers = field.getModifiers();
            if (!Modifier.isPrivate(modifiers)) {
                seen++;
                due.holds(field + " is public static final int", Modifier.isPublic(modifiers)
                        && Modifier.isStatic(modifiers) && Modifier.isFinal(modifiers) && field.getType() == int.class);
            }
            due.holds(field + " is final if it is static", !Modifier.isStatic(modifiers) || Modifier.isFinal(modifiers));
        }
        due.is("number of constants", seen, 5);
    }

    private static void methods() {
        List<String> found = new ArrayList<>();
        for (Method method : LessonHorses.class.getDeclaredMethods()) {
            if (!Modifier.isPrivate(method.getModifiers())) {
                found.add(signature(method));
                due.holds(method + " is public", Modifier.isPublic(method.getModifiers()));
                due.holds(method + " is no static one", !Modifier.isStatic(method.getModifiers()));
                due.holds(method + " answers an int", method.getReturnType() == int.class);
            }
        }
        List<String> wanted = new ArrayList<>(FACE);
        Collections.sort(wanted);
        Collections.sort(found);
        due.holds("the methods are " + found, found.equals(wanted));
    }

    private static void classAndConstructor() {
        due.is("modifiers of the class", LessonHorses.class.getModifiers(), Modifier.PUBLIC | Modifier.FINAL);
        Constructor<?>[] constructors = LessonHorses.class.getDeclaredConstructors();
        due.is("number of constructors", constructors.length, 1);
        due.is("modifiers of the constructor", constructors[0].getModifiers(), Modifier.PUBLIC);
        due.is("parameters of the constructor", constructors[0].getParameterCount(), 0);
    }

    private static String signature(Method method) {
        String parameters = Arrays.toString(method.getParameterTypes());
        return method.getName() + "(" + parameters.substring(1, parameters.length() - 1) + ")";
    }
}
