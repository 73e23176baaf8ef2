import java.util.Arrays;

/** Promises 11 to 13: undo, keep, restore, and which calls are acts. */
public final class HistoryTest {
    private static final int NONE = -5;

    private static final Due due = new Due("HistoryTest");

    public static void main(String[] args) {
        promise11FourStates();
        promise11EachAct();
        promise11BringsAllBack();
        promise11TextStays();
        promise11ErrorsAreNotRecorded();
        promise12Keep();
        promise13Restore();
        promise13SnapshotStays();
        due.finish();
    }

    private static void promise11FourStates() {
        LessonHorses stable = new LessonHorses();
        due.is("empty", stable.undo(), NONE);
        for (int strength = 81; strength <= 87; strength++) {
            stable.setHorse(0, strength, 0);
            due.is("states", stable.count(17), Math.min(strength - 80, 4));
        }
        for (int left = 3; left >= 0; left--) {
            due.is("undo()", stable.undo(), left);
            due.is("strength", stable.horse(0, 0), 83 + left);
            due.is("states", stable.count(17), left);
        }
        due.is("empty again", stable.undo(), NONE);
        due.is("strength", stable.horse(0, 0), 83);
        stable.setHorse(0, 90, 0);
        stable.setHorse(0, 91, 0);
        due.is("undo()", stable.undo(), 1);
        due.is("strength", stable.horse(0, 0), 90);
        stable.setHorse(0, 92, 0);
        due.is("undo()", stable.undo(), 1);
        due.is("strength", stable.horse(0, 0), 90);
        due.is("undo()", stable.undo(), 0);
        due.is("strength", stable.horse(0, 0), 83);
    }

    private static void promise11EachAct() {
        LessonHorses stable = new LessonHorses();
        stable.setHorse(0, 81, 0);
        due.is("setHorse", stable.undo(), 0);
        stable.setRider(0, 40, 1);
        due.is("setRider", stable.undo(), 0);
        stable.set(0, 4);
        due.is("set", stable.undo(), 0);
        stable.book(0, 0, 0);
        stable.cancel(0, 0);
        due.is("book and cancel", stable.undo(), 1);
        due.is("the booking is back", stable.count(3), 1);
        due.is("undo of book", stable.undo(), 0);
        stable.pass(1);
        due.is("pass", stable.undo(), 0);
        due.types(stable, "+0/0:0,1");
        due.is("bookPlan()", stable.bookPlan(), 2);
        due.is("bookPlan is one act", stable.undo(), 0);
        due.is("bookings", stable.count(3), 0);
        stable.keep();
        due.is("keep is no act", stable.undo(), NONE);
        stable.restore();
        due.is("restore", stable.undo(), 0);
        stable.clearText();
        stable.type('+');
        due.is("texts are no acts", stable.undo(), NONE);
    }

    /** A stable in which much goes on in each of the next hours. */
    private static LessonHorses withTwelveHours() {
        LessonHorses stable = new LessonHorses();
        stable.set(2, 50);
        stable.setHorse(9, 125, 9);
        stable.setRider(0, 121, 0);
        for (int hours = 0; hours < 12; hours++) {
            stable.book(hours, 0, 0);
            stable.book(hours, 1, 1 + hours % 11);
        }
        stable.pass(5);
        return stable;
    }

    private static LessonHorses passedAndUndone(int acts, int undone) {
        LessonHorses stable = withTwelveHours();
        for (int act = 0; act < acts; act++) {
            stable.pass(3);
        }
        for (int undo = 1; undo <= undone; undo++) {
            due.is("undo()", stable.undo(), 4 - undo);
        }
        return stable;
    }

    private static void promise11BringsAllBack() {
        for (int undone = 0; undone <= 4; undone++) {
            int[] told = Given.allTold(passedAndUndone(4, undone));
            int[] wanted = Given.allTold(passedAndUndone(4 - undone, 0));
            int others = 0;
            for (int index = 0; index < told.length; index++) {
                // The history is shorter, but nothing else is other.
                others += index != 17 && told[index] != wanted[index] ? 1 : 0;
            }
            due.is("what is other behind " + undone + " undo()", others, 0);
        }
        due.holds("passing hours can be seen",
                !Arrays.equals(Given.allTold(passedAndUndone(3, 0)), Given.allTold(passedAndUndone(4, 0))));
    }

    private static void promise11TextStays() {
        LessonHorses stable = new LessonHorses();
        stable.type('+');
        stable.book(0, 0, 0);
        stable.type('5');
        stable.keep();
        stable.type('/');
        due.is("undo()", stable.undo(), 0);
        due.is("text behind undo", stable.count(18), 3);
        due.is("restore()", stable.restore(), 0);
        due.is("text behind restore", stable.count(18), 3);
        due.is("bookings behind restore", stable.count(3), 1);
    }

    private static void promise11ErrorsAreNotRecorded() {
        LessonHorses stable = new LessonHorses();
        stable.book(0, 0, 0);
        stable.setHorse(0, 80, 0);
        stable.setHorse(10, 80, 0);
        stable.setRider(0, 19, 0);
        stable.set(0, 3);
        stable.set(0, 10);
        stable.book(0, 0, 0);
        stable.book(-1, 0, 0);
        stable.cancel(5, 5);
        stable.cancel(0, 12);
        stable.pass(0);
        stable.bookPlan();
        due.types(stable, "+0/0:1,0");
        stable.bookPlan();
        stable.restore();
        due.is("states", stable.count(17), 1);
        due.is("undo()", stable.undo(), 0);
        due.is("bookings", stable.count(3), 0);
    }

    private static void promise12Keep() {
        LessonHorses stable = new LessonHorses();
        due.is("keep()", stable.keep(), 0);
        stable.pass(42);
        due.is("keep() at 42", stable.keep(), 42);
        stable.pass(3);
        due.is("the latest snapshot", stable.restore(), 42);
        due.is("time", stable.count(0), 42);
        due.is("history", stable.count(17), 3);
    }

    private static void promise13Restore() {
        LessonHorses stable = new LessonHorses();
        due.is("no snapshot", stable.restore(), NONE);
        due.is("no act", stable.count(17), 0);
        stable.book(5, 0, 0);
        stable.keep();
        stable.setRider(3, 99, 9);
        stable.pass(20);
        due.is("restore()", stable.restore(), 0);
        due.is("weight", stable.rider(3, 0), 58);
        due.is("bookings", stable.count(3), 1);
        due.is("history", stable.count(17), 4);
        due.is("undo()", stable.undo(), 3);
        due.is("time behind undo", stable.count(0), 20);
        due.is("weight behind undo", stable.rider(3, 0), 99);
        due.is("bookings behind undo", stable.count(3), 0);
    }

    private static void promise13SnapshotStays() {
        LessonHorses stable = new LessonHorses();
        stable.set(4, 7);
        stable.keep();
        due.is("undo()", stable.undo(), 0);
        due.is("setting", stable.count(16), 3);
        due.is("restore()", stable.restore(), 0);
        due.is("setting", stable.count(16), 7);
        stable.set(4, 8);
        stable.pass(1);
        due.is("restore() again", stable.restore(), 0);
        due.is("setting", stable.count(16), 7);
        due.is("restore() of the same state is an act", stable.restore(), 0);
        due.is("history", stable.count(17), 4);
        stable.book(0, 0, 0);
        due.is("restore() behind a booking", stable.restore(), 0);
        due.is("bookings", stable.count(3), 0);
    }
}
