/** Counts the answers of a test, prints each one that is not due, and ends the test. */
final class Due {
    private final String test;
    private int asked;
    private int wrong;

    Due(String test) {
        this.test = test;
    }

    void is(String call, long got, long want) {
        asked++;
        if (got != want) {
            wrong++;
            System.out.println(test + ": " + call + " answered " + got + ", due is " + want);
        }
    }

    void holds(String what, boolean answer) {
        is(what, answer ? 1 : 0, 1);
    }

    /** Puts a text in place of the one that the stable has. */
    void types(LessonHorses stable, String text) {
        stable.clearText();
        for (int i = 0; i < text.length(); i++) {
            is("type of " + text + " at " + i, stable.type(text.charAt(i)), i + 1);
        }
    }

    void finish() {
        System.out.println(test + ": " + asked + " answers asked, " + wrong + " wrong");
        if (wrong != 0 || asked == 0) {
            System.exit(1);
        }
    }
}
