import java.util.function.Consumer;
import java.util.function.ToIntFunction;

/** What the document says under "Errors": the order of the checks, and that a refused call changes nothing. */
public final class RefusedCallsTest {
    private static final Due due = new Due("RefusedCallsTest");
    private static final String ORDER = "Where several errors can apply, the order of the @return line is the order of "
            + "the checks.";
    private static final String NONE_LAST = "NONE is no error; it is returned only if no error applies.";

    public static void main(String[] args) {
        orderOfSettingUp();
        orderOfBooking();
        orderOfPassing();
        orderOfTelling();
        noneOnlyIfNoErrorApplies();
        due.sentence("A call that returns an error or NONE changes nothing.");
        refusedWithMuchGoingOn();
        refusedTellingWithMuchGoingOn();
        refusedWithFullRooms();
        refusedAtTheLastTime();
        refusedWithAFullText();
        refusedWhenNew();
        tellingChangesNothing();
        due.finish();
    }

    private static void orderOfSettingUp() {
        due.sentence(ORDER);
        LessonHorses stable = new LessonHorses();
        due.is("setHorse(10, 19, 10)", stable.setHorse(10, 19, 10), Given.UNKNOWN);
        due.is("setHorse(-1, 80, -1)", stable.setHorse(-1, 80, -1), Given.UNKNOWN);
        due.is("setHorse(-1, 80, 0)", stable.setHorse(-1, 80, 0), Given.UNKNOWN);
        due.is("setHorse(0, 80, 10)", stable.setHorse(0, 80, 10), Given.BAD_VALUE);
        due.is("setHorse(0, 151, 0)", stable.setHorse(0, 151, 0), Given.BAD_VALUE);
        due.is("setRider(12, 19, 10)", stable.setRider(12, 19, 10), Given.UNKNOWN);
        due.is("setRider(-1, 151, 0)", stable.setRider(-1, 151, 0), Given.UNKNOWN);
        due.is("set(5, -1)", stable.set(5, -1), Given.UNKNOWN);
        due.is("set(-1, 1000)", stable.set(-1, 1000), Given.UNKNOWN);
        due.is("set(5, 3)", stable.set(5, 3), Given.UNKNOWN);
        due.is("set(0, 10)", stable.set(0, 10), Given.BAD_VALUE);
    }

    private static void orderOfBooking() {
        due.sentence(ORDER);
        LessonHorses stable = new LessonHorses();
        stable.book(0, 2, 0);
        stable.book(0, 2, 1);
        due.is("book(100, 3, 0)", stable.book(100, 3, 0), Given.UNKNOWN);
        due.is("book(-1, 0, 12)", stable.book(-1, 0, 12), Given.UNKNOWN);
        due.is("book(0, 3, 12)", stable.book(0, 3, 12), Given.UNKNOWN);
        due.is("book(0, 3, 0), who is booked", stable.book(0, 3, 0), Given.UNKNOWN);
        due.is("book(100, 2, 0)", stable.book(100, 2, 0), Given.BAD_VALUE);
        due.is("book(0, 2, 0) into the full ring", stable.book(0, 2, 0), Given.NOT_POSSIBLE);
        due.is("book(0, 2, 2) into the full ring", stable.book(0, 2, 2), Given.FULL);
        due.is("cancel(100, 12)", stable.cancel(100, 12), Given.UNKNOWN);
        due.is("cancel(-1, -1)", stable.cancel(-1, -1), Given.UNKNOWN);
        due.is("cancel(100, 0)", stable.cancel(100, 0), Given.BAD_VALUE);
        LessonHorses forty = Given.fortyBookings();
        due.is("the booking 41 in an unknown ring", forty.book(0, 3, 5), Given.UNKNOWN);
        due.is("the booking 41 of an unknown rider", forty.book(0, 0, 12), Given.UNKNOWN);
        due.is("the booking 41 in 100 hours", forty.book(100, 0, 5), Given.BAD_VALUE);
        due.is("the booking 41 of who is booked", forty.book(0, 1, 0), Given.NOT_POSSIBLE);
        due.is("the booking 41 of who is booked in the full ring", forty.book(0, 0, 0), Given.NOT_POSSIBLE);
        due.is("the booking 41", forty.book(0, 1, 5), Given.FULL);
    }

    private static void orderOfPassing() {
        due.sentence(ORDER);
        LessonHorses stable = Given.atTheEnd();
        due.is("pass(100) at the last time", stable.pass(100), Given.BAD_VALUE);
        due.is("pass(0) at the last time", stable.pass(0), Given.BAD_VALUE);
        due.is("pass(-1) at the last time", stable.pass(-1), Given.BAD_VALUE);
        due.is("pass(the most) at the last time", stable.pass(Given.MOST), Given.BAD_VALUE);
        due.is("pass(99) at the last time", stable.pass(99), Given.FULL);
    }

    private static void orderOfTelling() {
        due.sentence(ORDER);
        LessonHorses stable = new LessonHorses();
        due.is("horse(10, 9)", stable.horse(10, 9), Given.UNKNOWN);
        due.is("horse(-1, -1)", stable.horse(-1, -1), Given.UNKNOWN);
        due.is("rider(12, 10)", stable.rider(12, 10), Given.UNKNOWN);
        due.is("rider(-1, -1)", stable.rider(-1, -1), Given.UNKNOWN);
        due.is("lesson(100, 3, 3)", stable.lesson(100, 3, 3), Given.UNKNOWN);
        due.is("lesson(-1, -1, -1)", stable.lesson(-1, -1, -1), Given.UNKNOWN);
        due.is("lesson(0, 3, 3)", stable.lesson(0, 3, 3), Given.UNKNOWN);
        due.is("lesson(100, 0, 3)", stable.lesson(100, 0, 3), Given.BAD_VALUE);
    }

    private static void noneOnlyIfNoErrorApplies() {
        due.sentence(NONE_LAST);
        LessonHorses stable = new LessonHorses();
        stable.setRider(0, 150, 9);
        due.is("fall(0, 3) without a fall", stable.fall(0, 3), Given.BAD_VALUE);
        due.is("fall(20, -1) without a fall", stable.fall(20, -1), Given.BAD_VALUE);
        due.is("fall(-1, 0) without a fall", stable.fall(-1, 0), Given.BAD_VALUE);
        due.is("fall(0, 0) without a fall", stable.fall(0, 0), Given.NONE);
        due.is("cancel(100, 0) without a booking", stable.cancel(100, 0), Given.BAD_VALUE);
        due.is("cancel(0, 12) without a booking", stable.cancel(0, 12), Given.UNKNOWN);
        due.is("cancel(0, 0) without a booking", stable.cancel(0, 0), Given.NONE);
        due.is("takenIn(10, 0) for a heavy rider", stable.takenIn(10, 0), Given.UNKNOWN);
        due.is("takenIn(0, 12)", stable.takenIn(0, 12), Given.UNKNOWN);
        due.is("takenIn(0, 0) for a heavy rider", stable.takenIn(0, 0), Given.NONE);
        due.is("best(0) for a heavy rider", stable.best(0), Given.NONE);
        due.is("best(12)", stable.best(12), Given.UNKNOWN);
        due.is("rider(0, 10) without a lesson", stable.rider(0, 10), Given.BAD_VALUE);
        due.is("rider(0, 9) without a lesson", stable.rider(0, 9), Given.NONE);
        due.is("set(0, 3) to the same", stable.set(0, 3), Given.NONE);
        due.is("setHorse(0, 80, 0) to the same", stable.setHorse(0, 80, 0), Given.NONE);
    }

    // ---- nothing is changed

    private final String when;
    private final Consumer<LessonHorses> acts;

    private RefusedCallsTest(String when, Consumer<LessonHorses> acts) {
        this.when = when;
        this.acts = acts;
    }

    private LessonHorses prepared() {
        LessonHorses stable = new LessonHorses();
        acts.accept(stable);
        return stable;
    }

    /** Compares a stable with a twin that was not asked, now, behind each undo, and behind restore. */
    private void refuses(String call, int want, ToIntFunction<LessonHorses> asked) {
        for (int look = 0; look <= 5; look++) {
            LessonHorses stable = prepared();
            LessonHorses twin = prepared();
            due.is(call + " " + when, asked.applyAsInt(stable), want);
            for (int undone = 0; undone < look && look < 5; undone++) {
                due.is("undo() behind " + call + " " + when, stable.undo(), twin.undo());
            }
            if (look == 5) {
                due.is("restore() behind " + call + " " + when, stable.restore(), twin.restore());
            }
            int[] told = Given.allTold(stable);
            int[] wanted = Given.allTold(twin);
            for (int index = 0; index < wanted.length; index++) {
                due.is("told " + index + " behind " + call + " " + when, told[index], wanted[index]);
            }
            due.is("the plan behind " + call + " " + when, stable.bookPlan(), twin.bookPlan());
        }
    }

    /** A text, a snapshot, a full history, bookings, a fall, strains, tired horses. */
    private static void muchGoingOn(LessonHorses stable) {
        stable.set(2, 50);
        stable.setHorse(9, 125, 8);
        stable.setRider(0, 124, 3);
        stable.book(0, 0, 0);
        stable.book(0, 0, 1);
        stable.book(1, 0, 0);
        stable.keep();
        stable.pass(2);
        stable.book(0, 2, 4);
        stable.book(0, 2, 5);
        stable.book(3, 1, 6);
        Given.type(stable, "+0/1:4");
    }

    private static void refusedWithMuchGoingOn() {
        RefusedCallsTest test = new RefusedCallsTest("with much going on", RefusedCallsTest::muchGoingOn);
        test.refuses("setHorse(10, 99, 9)", Given.UNKNOWN, stable -> stable.setHorse(10, 99, 9));
        test.refuses("setHorse(-1, 99, 9)", Given.UNKNOWN, stable -> stable.setHorse(-1, 99, 9));
        test.refuses("setHorse(0, 19, 9)", Given.BAD_VALUE, stable -> stable.setHorse(0, 19, 9));
        test.refuses("setHorse(0, 151, 9)", Given.BAD_VALUE, stable -> stable.setHorse(0, 151, 9));
        test.refuses("setHorse(0, 99, -1)", Given.BAD_VALUE, stable -> stable.setHorse(0, 99, -1));
        test.refuses("setHorse(0, 99, 10)", Given.BAD_VALUE, stable -> stable.setHorse(0, 99, 10));
        test.refuses("setHorse(9, 125, 8)", Given.NONE, stable -> stable.setHorse(9, 125, 8));
        test.refuses("setRider(12, 99, 9)", Given.UNKNOWN, stable -> stable.setRider(12, 99, 9));
        test.refuses("setRider(0, 19, 9)", Given.BAD_VALUE, stable -> stable.setRider(0, 19, 9));
        test.refuses("setRider(0, 151, 9)", Given.BAD_VALUE, stable -> stable.setRider(0, 151, 9));
        test.refuses("setRider(0, 99, -1)", Given.BAD_VALUE, stable -> stable.setRider(0, 99, -1));
        test.refuses("setRider(0, 99, 10)", Given.BAD_VALUE, stable -> stable.setRider(0, 99, 10));
        test.refuses("set(5, 1)", Given.UNKNOWN, stable -> stable.set(5, 1));
        test.refuses("set(2, 51)", Given.BAD_VALUE, stable -> stable.set(2, 51));
        test.refuses("set(2, -1)", Given.BAD_VALUE, stable -> stable.set(2, -1));
        test.refuses("set(2, 50)", Given.NONE, stable -> stable.set(2, 50));
        test.refuses("book(0, 3, 7)", Given.UNKNOWN, stable -> stable.book(0, 3, 7));
        test.refuses("book(0, 0, 12)", Given.UNKNOWN, stable -> stable.book(0, 0, 12));
        test.refuses("book(-1, 0, 7)", Given.BAD_VALUE, stable -> stable.book(-1, 0, 7));
        test.refuses("book(100, 0, 7)", Given.BAD_VALUE, stable -> stable.book(100, 0, 7));
        test.refuses("book(0, 0, 4)", Given.NOT_POSSIBLE, stable -> stable.book(0, 0, 4));
        test.refuses("book(0, 2, 7)", Given.FULL, stable -> stable.book(0, 2, 7));
        test.refuses("cancel(0, -1)", Given.UNKNOWN, stable -> stable.cancel(0, -1));
        test.refuses("cancel(-1, 4)", Given.BAD_VALUE, stable -> stable.cancel(-1, 4));
        test.refuses("cancel(1, 4)", Given.NONE, stable -> stable.cancel(1, 4));
        test.refuses("cancel(0, 6)", Given.NONE, stable -> stable.cancel(0, 6));
        test.refuses("pass(0)", Given.BAD_VALUE, stable -> stable.pass(0));
        test.refuses("pass(100)", Given.BAD_VALUE, stable -> stable.pass(100));
        test.refuses("bookPlan() of a rider who is booked", Given.NOT_POSSIBLE, stable -> stable.bookPlan());
    }

    private static void refusedTellingWithMuchGoingOn() {
        RefusedCallsTest test = new RefusedCallsTest("with much going on", RefusedCallsTest::muchGoingOn);
        test.refuses("horse(10, 0)", Given.UNKNOWN, stable -> stable.horse(10, 0));
        test.refuses("horse(0, 9)", Given.BAD_VALUE, stable -> stable.horse(0, 9));
        test.refuses("rider(12, 0)", Given.UNKNOWN, stable -> stable.rider(12, 0));
        test.refuses("rider(0, 10)", Given.BAD_VALUE, stable -> stable.rider(0, 10));
        test.refuses("lesson(0, 3, 0)", Given.UNKNOWN, stable -> stable.lesson(0, 3, 0));
        test.refuses("lesson(100, 0, 0)", Given.BAD_VALUE, stable -> stable.lesson(100, 0, 0));
        test.refuses("fall(-1, 0)", Given.BAD_VALUE, stable -> stable.fall(-1, 0));
        test.refuses("fall(0, 3)", Given.BAD_VALUE, stable -> stable.fall(0, 3));
        test.refuses("fall(19, 0)", Given.NONE, stable -> stable.fall(19, 0));
        test.refuses("reason(10, 0)", Given.UNKNOWN, stable -> stable.reason(10, 0));
        test.refuses("best(12)", Given.UNKNOWN, stable -> stable.best(12));
        test.refuses("takenIn(0, 12)", Given.UNKNOWN, stable -> stable.takenIn(0, 12));
        test.refuses("takenIn(0, 0)", Given.NONE, stable -> stable.takenIn(0, 0));
        test.refuses("ifPassed(0, 0)", Given.BAD_VALUE, stable -> stable.ifPassed(0, 0));
        test.refuses("ifPassed(100, 0)", Given.BAD_VALUE, stable -> stable.ifPassed(100, 0));
        test.refuses("ifPassed(99, 4)", Given.BAD_VALUE, stable -> stable.ifPassed(99, 4));
        test.refuses("count(19)", Given.BAD_VALUE, stable -> stable.count(19));
        test.refuses("count(-1)", Given.BAD_VALUE, stable -> stable.count(-1));
    }

    private static void fortyWait(LessonHorses stable) {
        stable.keep();
        for (int made = 0; made < 40; made++) {
            stable.book(made / 4, 0, made % 4);
        }
        Given.type(stable, "+40/2:5");
    }

    private static void refusedWithFullRooms() {
        RefusedCallsTest test = new RefusedCallsTest("when 40 bookings wait", RefusedCallsTest::fortyWait);
        test.refuses("book(50, 1, 1)", Given.FULL, stable -> stable.book(50, 1, 1));
        test.refuses("book(0, 1, 1)", Given.NOT_POSSIBLE, stable -> stable.book(0, 1, 1));
        test.refuses("bookPlan()", Given.FULL, stable -> stable.bookPlan());
        RefusedCallsTest nearly = new RefusedCallsTest("when 39 bookings wait", stable -> {
            fortyWait(stable);
            stable.cancel(9, 3);
            Given.type(stable, "+40/2:5,6;+99/0:1");
        });
        nearly.refuses("bookPlan()", Given.FULL, stable -> stable.bookPlan());
        RefusedCallsTest fault = new RefusedCallsTest("when the text has a fault", stable -> {
            muchGoingOn(stable);
            Given.type(stable, "+40/2:5,6;+99/0:1,");
        });
        fault.refuses("bookPlan()", -118, stable -> stable.bookPlan());
    }

    private static void refusedAtTheLastTime() {
        RefusedCallsTest test = new RefusedCallsTest("at 9990", stable -> {
            for (int passed = 0; passed < 100; passed++) {
                stable.pass(99);
            }
            stable.keep();
            stable.book(0, 0, 0);
            stable.pass(90);
            stable.book(0, 0, 0);
            stable.book(10, 1, 1);
        });
        test.refuses("pass(10)", Given.FULL, stable -> stable.pass(10));
        test.refuses("pass(99)", Given.FULL, stable -> stable.pass(99));
        test.refuses("pass(100)", Given.BAD_VALUE, stable -> stable.pass(100));
    }

    private static void refusedWithAFullText() {
        String plan = "+0/0:0,1,2,3;+1/0:0,1,2,3;+2/0:0,1,2,3;+3/0:0,1,2,3;+4/0:0,1";
        RefusedCallsTest test = new RefusedCallsTest("with a full text", stable -> {
            stable.book(50, 0, 0);
            stable.keep();
            Given.type(stable, plan);
        });
        test.refuses("type(',')", Given.FULL, stable -> stable.type(','));
        test.refuses("type('x')", Given.FULL, stable -> stable.type('x'));
    }

    private static void refusedWhenNew() {
        RefusedCallsTest test = new RefusedCallsTest("when new", stable -> { });
        test.refuses("undo()", Given.NONE, stable -> stable.undo());
        test.refuses("restore()", Given.NONE, stable -> stable.restore());
        test.refuses("bookPlan()", -100, stable -> stable.bookPlan());
        test.refuses("busiest()", Given.NONE, stable -> stable.busiest());
        test.refuses("cancel(0, 0)", Given.NONE, stable -> stable.cancel(0, 0));
        test.refuses("fall(0, 0)", Given.NONE, stable -> stable.fall(0, 0));
        RefusedCallsTest acted = new RefusedCallsTest("behind acts without a snapshot", stable -> {
            stable.pass(5);
            stable.book(3, 1, 4);
        });
        acted.refuses("restore()", Given.NONE, stable -> stable.restore());
        RefusedCallsTest kept = new RefusedCallsTest("with a snapshot but no history", stable -> {
            stable.pass(5);
            stable.keep();
            stable.undo();
        });
        kept.refuses("undo()", Given.NONE, stable -> stable.undo());
    }

    private static void tellingChangesNothing() {
        RefusedCallsTest test = new RefusedCallsTest("with much going on", RefusedCallsTest::muchGoingOn);
        test.refuses("ifPassed(99, 0)", 3, stable -> stable.ifPassed(99, 0));
        test.refuses("takenIn(9, 4), which the farrier has", 1, stable -> stable.takenIn(9, 4));
        test.refuses("best(4)", 0, stable -> stable.best(4));
        test.refuses("reason(0, 0)", 5, stable -> stable.reason(0, 0));
        test.refuses("busiest()", 0, stable -> stable.busiest());
        test.refuses("fall(0, 2)", 9, stable -> stable.fall(0, 2));
    }
}
