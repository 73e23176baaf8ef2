/** Promises 1 to 4 (a new object, setHorse, setRider, set), and what 14 and 15 tell of them. */
public final class HorsesAndRidersTest {
    private static final int UNKNOWN = -1;
    private static final int BAD_VALUE = -2;
    private static final int NONE = -5;
    private static final int LEAST = Integer.MIN_VALUE;
    private static final int MOST = Integer.MAX_VALUE;

    private static final Due due = new Due("HorsesAndRidersTest");

    public static void main(String[] args) {
        promise1HorsesAndRiders();
        promise1EverythingElse();
        promise1EachObjectIsItsOwn();
        promise2SetHorse();
        promise2WrongInputs();
        promise2LeavesTheRest();
        promise3SetRider();
        promise3WrongInputs();
        promise3FearAndRowEnd();
        promise4EachSetting();
        promise4WrongInputs();
        promise14WrongInputs();
        promise15WrongInputs();
        due.finish();
    }

    private static void promise1HorsesAndRiders() {
        LessonHorses stable = new LessonHorses();
        int[] tempers = {0, 1, 2, 3, 0, 1, 2, 3, 0, 1};
        int[] strengths = {80, 85, 90, 95, 100, 105, 110, 115, 120, 125};
        for (int horse = 0; horse < 10; horse++) {
            due.is("strength of " + horse, stable.horse(horse, 0), strengths[horse]);
            due.is("temper of " + horse, stable.horse(horse, 1), tempers[horse]);
            for (int what = 2; what <= 8; what++) {
                due.is("horse(" + horse + ", " + what + ")", stable.horse(horse, what), 0);
            }
        }
        int[] weights = {40, 46, 52, 58, 64, 70, 76, 82, 88, 94, 100, 106};
        int[] others = {0, 1, 0, 1, 0, 0, 0, 0, 0, NONE};
        for (int rider = 0; rider < 12; rider++) {
            due.is("weight of " + rider, stable.rider(rider, 0), weights[rider]);
            for (int what = 1; what <= 9; what++) {
                due.is("rider(" + rider + ", " + what + ")", stable.rider(rider, what), others[what]);
            }
        }
    }

    private static void promise1EverythingElse() {
        LessonHorses stable = new LessonHorses();
        int[] counts = {0, 0, 0, 0, 0, 0, 0, 0, 0, 0, 1, NONE, 3, 12, 5, 20, 3, 0, 0};
        for (int what = 0; what < counts.length; what++) {
            due.is("count(" + what + ")", stable.count(what), counts[what]);
        }
        int[] rooms = {4, 3, 2};
        for (int ring = 0; ring < 3; ring++) {
            due.is("booked in ring " + ring, stable.lesson(0, ring, 0), 0);
            due.is("room in ring " + ring, stable.lesson(0, ring, 1), rooms[ring]);
            due.is("riders in ring " + ring, stable.lesson(0, ring, 2), 0);
        }
        due.is("fall(0, 0)", stable.fall(0, 0), NONE);
        due.is("busiest()", stable.busiest(), NONE);
        due.is("undo()", stable.undo(), NONE);
        due.is("restore()", stable.restore(), NONE);
        due.is("clearText()", stable.clearText(), 0);
    }

    private static void promise1EachObjectIsItsOwn() {
        LessonHorses first = new LessonHorses();
        first.setHorse(0, 20, 9);
        first.set(0, 9);
        first.book(0, 0, 0);
        first.type('+');
        LessonHorses second = new LessonHorses();
        due.is("strength in a second stable", second.horse(0, 0), 80);
        due.is("setting in a second stable", second.count(12), 3);
        due.is("bookings in a second stable", second.count(3), 0);
        due.is("text in a second stable", second.count(18), 0);
        due.is("history in a second stable", second.count(17), 0);
    }

    private static void promise2SetHorse() {
        LessonHorses stable = new LessonHorses();
        due.is("setHorse(0, 20, 0)", stable.setHorse(0, 20, 0), 80);
        due.is("setHorse(0, 150, 9)", stable.setHorse(0, 150, 9), 20);
        due.is("strength", stable.horse(0, 0), 150);
        due.is("temper", stable.horse(0, 1), 9);
        due.is("history", stable.count(17), 2);
        due.is("the same again", stable.setHorse(0, 150, 9), NONE);
        due.is("history behind NONE", stable.count(17), 2);
        due.is("another temper alone", stable.setHorse(0, 150, 8), 150);
        due.is("temper", stable.horse(0, 1), 8);
        due.is("another strength alone", stable.setHorse(0, 149, 8), 150);
        due.is("history", stable.count(17), 4);
        due.is("setHorse(9, 125, 1)", stable.setHorse(9, 125, 1), NONE);
        due.is("setHorse(9, 125, 0)", stable.setHorse(9, 125, 0), 125);
        due.is("undo()", stable.undo(), 3);
        due.is("temper behind undo", stable.horse(9, 1), 1);
    }

    private static void promise2WrongInputs() {
        LessonHorses stable = new LessonHorses();
        for (int horse : new int[] {-1, 10, 11, LEAST, MOST}) {
            due.is("setHorse(" + horse + ", 80, 0)", stable.setHorse(horse, 80, 0), UNKNOWN);
            due.is("setHorse(" + horse + ", 19, 10)", stable.setHorse(horse, 19, 10), UNKNOWN);
        }
        for (int strength : new int[] {19, 151, 0, -80, LEAST, MOST}) {
            due.is("setHorse(0, " + strength + ", 0)", stable.setHorse(0, strength, 0), BAD_VALUE);
        }
        for (int temper : new int[] {-1, 10, LEAST, MOST}) {
            due.is("setHorse(0, 80, " + temper + ")", stable.setHorse(0, 80, temper), BAD_VALUE);
        }
        due.is("strength", stable.horse(0, 0), 80);
        due.is("temper", stable.horse(0, 1), 0);
        due.is("history", stable.count(17), 0);
    }

    private static void promise2LeavesTheRest() {
        LessonHorses stable = new LessonHorses();
        stable.set(2, 50);
        stable.book(0, 0, 0);
        stable.pass(1);
        stable.setHorse(0, 60, 5);
        int[] facts = {60, 5, 1, 1, 1, 0, 1, 0, 0};
        for (int what = 0; what < facts.length; what++) {
            due.is("horse(0, " + what + ") behind setHorse", stable.horse(0, what), facts[what]);
        }
    }

    private static void promise3SetRider() {
        LessonHorses stable = new LessonHorses();
        due.is("setRider(0, 20, 0)", stable.setRider(0, 20, 0), 40);
        due.is("setRider(0, 150, 9)", stable.setRider(0, 150, 9), 20);
        due.is("weight", stable.rider(0, 0), 150);
        due.is("skill", stable.rider(0, 1), 9);
        due.is("the same again is an act", stable.setRider(0, 150, 9), 150);
        due.is("history", stable.count(17), 3);
        due.is("setRider(11, 30, 3)", stable.setRider(11, 30, 3), 106);
        due.is("undo()", stable.undo(), 3);
        due.is("weight behind undo", stable.rider(11, 0), 106);
        due.is("skill behind undo", stable.rider(11, 1), 1);
    }

    private static void promise3WrongInputs() {
        LessonHorses stable = new LessonHorses();
        for (int rider : new int[] {-1, 12, 13, LEAST, MOST}) {
            due.is("setRider(" + rider + ", 40, 1)", stable.setRider(rider, 40, 1), UNKNOWN);
            due.is("setRider(" + rider + ", 19, 10)", stable.setRider(rider, 19, 10), UNKNOWN);
        }
        for (int weight : new int[] {19, 151, 0, LEAST, MOST}) {
            due.is("setRider(0, " + weight + ", 1)", stable.setRider(0, weight, 1), BAD_VALUE);
        }
        for (int skill : new int[] {-1, 10, LEAST, MOST}) {
            due.is("setRider(0, 40, " + skill + ")", stable.setRider(0, 40, skill), BAD_VALUE);
        }
        due.is("weight", stable.rider(0, 0), 40);
        due.is("history", stable.count(17), 0);
    }

    private static void promise3FearAndRowEnd() {
        LessonHorses stable = new LessonHorses();
        stable.book(0, 0, 0);
        stable.pass(1);
        due.is("lessons in a row", stable.rider(0, 4), 1);
        stable.setRider(0, 40, 0);
        due.is("lessons in a row behind setRider", stable.rider(0, 4), 0);
        due.is("rides behind setRider", stable.rider(0, 5), 1);
        due.is("latest horse behind setRider", stable.rider(0, 9), 0);
        for (int horse = 0; horse < 10; horse++) {
            stable.setHorse(horse, 150, 9);
        }
        stable.book(0, 0, 0);
        stable.pass(1);
        due.is("fear behind a fall", stable.rider(0, 2), 1);
        stable.setRider(0, 40, 5);
        due.is("fear behind setRider", stable.rider(0, 2), 0);
        due.is("what the rider can do behind setRider", stable.rider(0, 3), 5);
        due.is("falls behind setRider", stable.rider(0, 6), 1);
    }

    private static void promise4EachSetting() {
        int[] least = {1, 1, 0, 1, 1};
        int[] most = {9, 99, 50, 99, 9};
        int[] first = {3, 12, 5, 20, 3};
        for (int which = 0; which < 5; which++) {
            LessonHorses stable = new LessonHorses();
            String call = "set(" + which + ", ..)";
            due.is(call + " to the first", stable.set(which, first[which]), NONE);
            due.is(call + " below", stable.set(which, least[which] - 1), BAD_VALUE);
            due.is(call + " above", stable.set(which, most[which] + 1), BAD_VALUE);
            due.is(call + " far below", stable.set(which, LEAST), BAD_VALUE);
            due.is(call + " far above", stable.set(which, MOST), BAD_VALUE);
            due.is(call + " history", stable.count(17), 0);
            due.is(call + " least", stable.set(which, least[which]), first[which]);
            due.is(call + " most", stable.set(which, most[which]), least[which]);
            due.is(call + " most again", stable.set(which, most[which]), NONE);
            for (int other = 0; other < 5; other++) {
                due.is(call + " count", stable.count(12 + other), other == which ? most[other] : first[other]);
            }
            due.is(call + " history", stable.count(17), 2);
            due.is(call + " undo", stable.undo(), 1);
            due.is(call + " count behind undo", stable.count(12 + which), least[which]);
        }
    }

    private static void promise4WrongInputs() {
        LessonHorses stable = new LessonHorses();
        for (int which : new int[] {-1, 5, 6, LEAST, MOST}) {
            due.is("set(" + which + ", 3)", stable.set(which, 3), UNKNOWN);
            due.is("set(" + which + ", -1)", stable.set(which, -1), UNKNOWN);
        }
        due.is("history", stable.count(17), 0);
    }

    private static void promise14WrongInputs() {
        LessonHorses stable = new LessonHorses();
        for (int horse : new int[] {-1, 10, LEAST, MOST}) {
            due.is("horse(" + horse + ", 0)", stable.horse(horse, 0), UNKNOWN);
            due.is("horse(" + horse + ", 9)", stable.horse(horse, 9), UNKNOWN);
        }
        for (int what : new int[] {-1, 9, LEAST, MOST}) {
            due.is("horse(9, " + what + ")", stable.horse(9, what), BAD_VALUE);
        }
    }

    private static void promise15WrongInputs() {
        LessonHorses stable = new LessonHorses();
        for (int rider : new int[] {-1, 12, LEAST, MOST}) {
            due.is("rider(" + rider + ", 0)", stable.rider(rider, 0), UNKNOWN);
            due.is("rider(" + rider + ", 10)", stable.rider(rider, 10), UNKNOWN);
        }
        for (int what : new int[] {-1, 10, LEAST, MOST}) {
            due.is("rider(11, " + what + ")", stable.rider(11, what), BAD_VALUE);
        }
    }
}
