/** Promises 8 to 10: type, clearText, bookPlan. */
public final class PlansTest {
    private static final int FULL = -3;
    private static final int NOT_POSSIBLE = -4;

    private static final Due due = new Due("PlansTest");

    public static void main(String[] args) {
        promise8SixtyCharacters();
        promise8AnyCharacter();
        promise9ClearText();
        promise10Faults();
        promise10FaultAtEachPlace();
        promise10EveryNumber();
        promise10Books();
        promise10InTheOrderOfTheText();
        promise10AllOrNone();
        promise10LongestPlan();
        due.finish();
    }

    private static void promise8SixtyCharacters() {
        LessonHorses stable = new LessonHorses();
        for (int length = 1; length <= 60; length++) {
            due.is("type", stable.type('+'), length);
            due.is("length", stable.count(18), length);
        }
        due.is("the character 61", stable.type('+'), FULL);
        due.is("and again", stable.type((char) 0), FULL);
        due.is("length", stable.count(18), 60);
        due.is("fault", stable.bookPlan(), -101);
        due.is("clearText()", stable.clearText(), 60);
        due.is("room again", stable.type('+'), 1);
        due.is("history", stable.count(17), 0);
    }

    private static void promise8AnyCharacter() {
        LessonHorses stable = new LessonHorses();
        int length = 0;
        for (char character : new char[] {0, ' ', 10, 127, 233, 255, 256, 0x2B00, 0xFFFF}) {
            length++;
            due.is("type of " + (int) character, stable.type(character), length);
        }
        due.is("fault", stable.bookPlan(), -100);
        // Signs whose lower bytes are those of a plan are no signs of a plan.
        for (int high = 0x100; high < 0x10000; high *= 2) {
            stable.clearText();
            stable.type((char) ('+' + high));
            due.is("fault of a sign above " + high, stable.bookPlan(), -100);
            stable.clearText();
            stable.type('+');
            stable.type((char) ('1' + high));
            due.is("fault of a digit above " + high, stable.bookPlan(), -101);
        }
    }

    private static void promise9ClearText() {
        LessonHorses stable = new LessonHorses();
        due.is("clearText() of the empty text", stable.clearText(), 0);
        due.types(stable, "+5/0:1");
        due.is("clearText()", stable.clearText(), 6);
        due.is("length", stable.count(18), 0);
        due.is("clearText() again", stable.clearText(), 0);
        due.is("fault of the empty text", stable.bookPlan(), -100);
        due.is("history", stable.count(17), 0);
    }

    private static void fault(String text, int index) {
        LessonHorses stable = new LessonHorses();
        due.types(stable, text);
        due.is("bookPlan() of " + text, stable.bookPlan(), -100 - index);
        due.is("history behind " + text, stable.count(17), 0);
        due.is("bookings behind " + text, stable.count(3), 0);
        due.is("length behind " + text, stable.count(18), text.length());
    }

    private static void promise10Faults() {
        fault("", 0);
        fault("5", 0);
        fault(";", 0);
        fault("+", 1);
        fault("++", 1);
        fault("+/", 1);
        fault("+-1", 1);
        fault("+ 1", 1);
        fault("+5", 2);
        fault("+05", 2);
        fault("+00", 2);
        fault("+99", 3);
        fault("+100", 3);
        fault("+5:", 2);
        fault("+5+", 2);
        fault("+5/", 3);
        fault("+5//", 3);
        fault("+5/3", 3);
        fault("+5/9", 3);
        fault("+5/:", 3);
        fault("+5/0", 4);
        fault("+5/00", 4);
        fault("+5/10", 4);
        fault("+5/20", 4);
        fault("+5/1/", 4);
        fault("+5/0:", 5);
        fault("+5/0:;", 5);
        fault("+5/0:,", 5);
        fault("+5/0::", 5);
        fault("+5/0:12", 6);
        fault("+5/0:20", 6);
        fault("+5/0:01", 6);
        fault("+5/0:00", 6);
        fault("+5/0:110", 7);
        fault("+5/0:111", 7);
        fault("+5/0:100", 7);
        fault("+5/0:1 ", 6);
        fault("+5/0:1+", 6);
        fault("+5/0:1/", 6);
        fault("+5/0:1:", 6);
        fault("+5/0:1,", 7);
        fault("+5/0:1,,", 7);
        fault("+5/0:1,;", 7);
        fault("+5/0:1;", 7);
        fault("+5/0:1;;", 7);
        fault("+5/0:1;5", 7);
        fault("+5/0:1;+", 8);
        fault("+5/0:1;+6/2:3,11;+7/1:11,x", 25);
        fault("+5/0:1;+6/2:3,11;+7/1:11,", 25);
    }

    private static void promise10FaultAtEachPlace() {
        String plan = "+10/2:11,0;+0/0:7";
        for (int index = 0; index < plan.length(); index++) {
            fault(plan.substring(0, index) + "x" + plan.substring(index), index);
        }
    }

    private static void promise10EveryNumber() {
        for (int hours = 0; hours < 100; hours++) {
            LessonHorses stable = new LessonHorses();
            int rider = hours % 12;
            int ring = hours % 3;
            due.types(stable, "+" + hours + "/" + ring + ":" + rider);
            due.is("bookPlan() of " + hours, stable.bookPlan(), 1);
            due.is("riders", stable.lesson(hours, ring, 2), 1 << rider);
        }
    }

    private static void promise10Books() {
        LessonHorses stable = new LessonHorses();
        stable.pass(7);
        due.types(stable, "+0/0:0,1,11;+99/2:5;+0/1:2");
        due.is("bookPlan()", stable.bookPlan(), 5);
        due.is("history", stable.count(17), 2);
        due.is("bookings", stable.count(3), 5);
        due.is("lesson(0, 0, 2)", stable.lesson(0, 0, 2), 1 + 2 + 2048);
        due.is("lesson(0, 1, 2)", stable.lesson(0, 1, 2), 4);
        due.is("lesson(99, 2, 2)", stable.lesson(99, 2, 2), 32);
        due.is("the text stays", stable.count(18), 26);
        due.is("bookPlan() again", stable.bookPlan(), NOT_POSSIBLE);
        due.is("bookings", stable.count(3), 5);
        stable.pass(1);
        due.is("bookPlan() an hour later", stable.bookPlan(), 5);
        due.is("undo()", stable.undo(), 3);
        due.is("bookings behind undo", stable.count(3), 1);
        due.is("the text stays behind undo", stable.clearText(), 26);
    }

    private static void promise10InTheOrderOfTheText() {
        LessonHorses stable = new LessonHorses();
        due.types(stable, "+0/2:3;+0/0:2,0;+0/1:1");
        due.is("bookPlan()", stable.bookPlan(), 4);
        due.is("pass(1)", stable.pass(1), 4);
        due.is("horse of 3", stable.rider(3, 9), 0);
        due.is("horse of 2", stable.rider(2, 9), 1);
        due.is("horse of 0", stable.rider(0, 9), 4);
        due.is("horse of 1", stable.rider(1, 9), 5);
    }

    private static void promise10AllOrNone() {
        LessonHorses stable = new LessonHorses();
        stable.book(3, 2, 9);
        due.types(stable, "+3/0:1;+3/2:0,2,1");
        due.is("the ring is full ahead of the rider booked twice", stable.bookPlan(), FULL);
        due.types(stable, "+3/0:1;+3/2:0,1,2");
        due.is("the rider booked twice, in a ring that is full", stable.bookPlan(), NOT_POSSIBLE);
        due.types(stable, "+3/0:1,1");
        due.is("the same rider twice", stable.bookPlan(), NOT_POSSIBLE);
        due.types(stable, "+3/0:1,2,3,4,5");
        due.is("five in a ring for four", stable.bookPlan(), FULL);
        due.types(stable, "+3/0:1,2,3,4,12");
        due.is("the fault ahead of all", stable.bookPlan(), -114);
        due.is("bookings", stable.count(3), 1);
        due.is("history", stable.count(17), 1);
        due.types(stable, "+3/0:1,2,3,4;+3/2:0;+3/1:5,6,7;+4/2:0");
        due.is("all rings to the brim", stable.bookPlan(), 9);
        due.is("bookings", stable.count(3), 10);
    }

    private static void promise10LongestPlan() {
        LessonHorses stable = new LessonHorses();
        for (int made = 0; made < 18; made++) {
            stable.book(50 + made, 0, 0);
        }
        String plan = "+0/0:0,1,2,3;+1/0:0,1,2,3;+2/0:0,1,2,3;+3/0:0,1,2,3;+4/0:0,1";
        due.types(stable, plan.substring(0, 59));
        due.is("fault of a text that ends too early", stable.bookPlan(), -159);
        due.types(stable, plan.substring(0, 58) + ";+");
        due.is("fault of 60 characters that end too early", stable.bookPlan(), -160);
        due.types(stable, plan);
        due.is("length", stable.count(18), 60);
        due.is("bookPlan()", stable.bookPlan(), 18);
        due.is("bookings", stable.count(3), 36);
        due.types(stable, "+9/0:0,1,2,3;+9/1:4");
        due.is("the booking 41", stable.bookPlan(), FULL);
        due.is("bookings", stable.count(3), 36);
        due.types(stable, "+9/0:0,1,2;+9/1:4");
        due.is("the booking 40", stable.bookPlan(), 4);
        due.is("bookings", stable.count(3), 40);
    }
}
