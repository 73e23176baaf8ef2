/** Counts the answers of a test, prints each one that is not due, and ends the test. */
final class Due {
    private final String test;
    private String sentence = "";
    private int asked;
    private int askedAhead;
    private int wrong;

    Due(String test) {
        this.test = test;
    }

    /** Tells the sentence of the document that the answers behind it are about. */
    void sentence(String words) {
        endSentence();
        sentence = " [" + words + "]";
    }

    private void endSentence() {
        if (!sentence.isEmpty() && asked == askedAhead) {
            wrong++;
            System.out.println(test + ": nothing is asked about" + sentence);
        }
        askedAhead = asked;
    }

    void is(String call, long got, long want) {
        asked++;
        if (got != want) {
            wrong++;
            System.out.println(test + ": " + call + " answered " + got + ", due is " + want + sentence);
        }
    }

    void holds(String what, boolean answer) {
        is(what, answer ? 1 : 0, 1);
    }

    /** Puts a text in place of the one that the stable has. */
    void types(LessonHorses stable, String text) {
        stable.clearText();
        for (int i = 0; i < text.length(); i++) {
            is("type of " + text + " at " + i, stable.type(text.charAt(i)), i + 1);
        }
    }

    void finish() {
        endSentence();
        System.out.println(test + ": " + asked + " answers asked, " + wrong + " wrong");
        if (wrong != 0 || asked == 0) {
            System.exit(1);
        }
    }
}
