import java.util.function.Consumer;

/** The edges that the document names under "History" and in the promises 11 to 13, sentence by sentence. */
public final class EdgesOfHistoryTest {
    private static final Due due = new Due("EdgesOfHistoryTest");

    public static void main(String[] args) {
        atMost4States();
        emptyHistory();
        oldestIsDropped();
        undoRestoresTheLatest();
        undoneStatesAreNotRecorded();
        eachActRecordsTheStateBefore();
        otherCallsRecordNothing();
        oneSnapshotEmptyAtFirst();
        snapshotInPlaceOfTheOneThatWas();
        snapshotStays();
        restoreIsAnAct();
        stateIsEverythingBut();
        textIsNoState();
        historyIsNoState();
        snapshotIsNoState();
        keepReturnsTheTime();
        fiveHundredTwelveCalls();
        due.finish();
    }

    private static void atMost4States() {
        due.sentence("A history of at most 4 states is kept");
        LessonHorses stable = new LessonHorses();
        int[] states = {0, 1, 2, 3, 4, 4, 4, 4, 4, 4};
        for (int acts = 0; acts < states.length; acts++) {
            due.is("count(17) behind " + acts + " acts", stable.count(17), states[acts]);
            stable.setRider(0, 100, 1);
        }
        for (int left = 3; left >= 0; left--) {
            due.is("undo()", stable.undo(), left);
            due.is("count(17)", stable.count(17), left);
        }
        due.is("undo() a fifth time", stable.undo(), Given.NONE);
    }

    private static void emptyHistory() {
        due.sentence("Returns the number of states that are left; NONE if the history is empty.");
        LessonHorses stable = new LessonHorses();
        due.is("undo() at first", stable.undo(), Given.NONE);
        due.is("undo() again", stable.undo(), Given.NONE);
        due.is("count(17)", stable.count(17), 0);
        stable.set(0, 9);
        due.is("undo() of the only act", stable.undo(), 0);
        due.is("undo() behind it", stable.undo(), Given.NONE);
        due.is("it changes nothing", stable.count(12), 3);
        stable.set(0, 8);
        due.is("an act is undone still", stable.undo(), 0);
        due.is("the setting", stable.count(12), 3);
    }

    /** Acts that can be told from each other: the setting 3 is that number. */
    private static LessonHorses actsUpTo(int number) {
        LessonHorses stable = new LessonHorses();
        for (int act = 1; act <= number; act++) {
            stable.set(3, act);
        }
        return stable;
    }

    private static void oldestIsDropped() {
        due.sentence("when one more is recorded, the oldest one is dropped");
        for (int acts = 1; acts <= 19; acts++) {
            LessonHorses stable = actsUpTo(acts);
            int kept = Math.min(acts, 4);
            for (int left = kept - 1; left >= 0; left--) {
                due.is("undo() of " + acts, stable.undo(), left);
            }
            due.is("the oldest one behind " + acts + " acts", stable.count(15), acts <= 4 ? 20 : acts - 4);
            due.is("undo()", stable.undo(), Given.NONE);
        }
    }

    private static void undoRestoresTheLatest() {
        due.sentence("undo() removes and restores the latest one.");
        LessonHorses stable = actsUpTo(9);
        for (int left = 3; left >= 0; left--) {
            due.is("undo()", stable.undo(), left);
            due.is("the state before the act", stable.count(15), 5 + left);
        }
    }

    private static void undoneStatesAreNotRecorded() {
        due.sentence("undo() removes and restores the latest one.");
        LessonHorses stable = actsUpTo(6);
        stable.undo();
        stable.undo();
        due.is("undo() is no act", stable.count(17), 2);
        stable.set(3, 50);
        due.is("count(17)", stable.count(17), 3);
        int[] values = {4, 3, 2};
        for (int undone = 0; undone < 3; undone++) {
            due.is("undo()", stable.undo(), 2 - undone);
            due.is("the state before", stable.count(15), values[undone]);
        }
        due.is("undo()", stable.undo(), Given.NONE);
        for (int round = 0; round < 11; round++) {
            stable.set(3, 60 + round);
            stable.set(3, 80 + round);
            due.is("undo() in the round " + round, stable.undo(), Math.min(round + 1, 3));
            due.is("the state before the second act", stable.count(15), 60 + round);
        }
    }

    private static void recordsOneState(String act, Consumer<LessonHorses> call) {
        LessonHorses stable = new LessonHorses();
        stable.book(7, 0, 0);
        stable.keep();
        Given.type(stable, "+0/0:3");
        call.accept(stable);
        due.is("count(17) behind " + act, stable.count(17), 2);
        due.is("undo() of " + act, stable.undo(), 1);
        LessonHorses other = new LessonHorses();
        other.book(7, 0, 0);
        Given.type(other, "+0/0:3");
        sameTold(act + " and undo()", stable, other);
    }

    private static void sameTold(String behind, LessonHorses stable, LessonHorses other) {
        int[] told = Given.allTold(stable);
        int[] wanted = Given.allTold(other);
        for (int index = 0; index < wanted.length; index++) {
            due.is("told " + index + " behind " + behind, told[index], wanted[index]);
        }
    }

    private static void eachActRecordsTheStateBefore() {
        due.sentence("Each call of a method that is described as an act, and returns no error and not NONE, records the "
                + "state that was before it.");
        recordsOneState("setHorse", stable -> due.is("setHorse", stable.setHorse(9, 20, 9), 125));
        recordsOneState("setRider", stable -> due.is("setRider", stable.setRider(11, 20, 9), 106));
        recordsOneState("setRider to the same", stable -> due.is("setRider", stable.setRider(11, 106, 1), 106));
        recordsOneState("set", stable -> due.is("set", stable.set(4, 9), 3));
        recordsOneState("book", stable -> due.is("book", stable.book(99, 2, 11), 1));
        recordsOneState("cancel", stable -> due.is("cancel", stable.cancel(7, 0), 0));
        recordsOneState("pass", stable -> due.is("pass", stable.pass(99), 1));
        recordsOneState("bookPlan", stable -> due.is("bookPlan", stable.bookPlan(), 1));
        recordsOneState("restore", stable -> due.is("restore", stable.restore(), 0));
    }

    private static void otherCallsRecordNothing() {
        due.sentence("Each call of a method that is described as an act [..] records");
        LessonHorses stable = new LessonHorses();
        stable.type('+');
        stable.clearText();
        stable.keep();
        stable.undo();
        Given.allTold(stable);
        stable.reason(0, 0);
        stable.best(0);
        stable.takenIn(0, 0);
        stable.ifPassed(99, 0);
        due.is("count(17)", stable.count(17), 0);
        due.is("undo()", stable.undo(), Given.NONE);
    }

    private static void oneSnapshotEmptyAtFirst() {
        due.sentence("There is one snapshot, empty at first.");
        LessonHorses stable = new LessonHorses();
        due.is("restore() at first", stable.restore(), Given.NONE);
        stable.pass(3);
        due.is("restore() behind an act", stable.restore(), Given.NONE);
        due.is("nothing is restored", stable.count(0), 3);
        due.is("nothing is recorded", stable.count(17), 1);
        stable.undo();
        due.is("restore() behind undo()", stable.restore(), Given.NONE);
        stable.keep();
        due.is("restore() behind keep()", stable.restore(), 0);
        due.is("another stable has none", new LessonHorses().restore(), Given.NONE);
    }

    private static void snapshotInPlaceOfTheOneThatWas() {
        due.sentence("Takes a snapshot of the state, in place of the one that was.");
        LessonHorses stable = new LessonHorses();
        for (int time = 0; time < 7; time++) {
            due.is("keep()", stable.keep(), time);
            stable.pass(1);
        }
        due.is("restore()", stable.restore(), 6);
        due.is("restore() again", stable.restore(), 6);
    }

    private static void snapshotStays() {
        due.sentence("Restores the state of the snapshot, which stays.");
        LessonHorses stable = new LessonHorses();
        stable.book(2, 1, 7);
        stable.keep();
        for (int round = 0; round < 3; round++) {
            stable.pass(5);
            stable.setHorse(3, 20 + round, 9);
            stable.book(1, 0, 0);
            due.is("restore()", stable.restore(), 0);
            due.is("time", stable.count(0), 0);
            due.is("strength", stable.horse(3, 0), 95);
            due.is("bookings", stable.count(3), 1);
            due.is("riders", stable.lesson(2, 1, 2), 128);
        }
    }

    private static void restoreIsAnAct() {
        due.sentence("Restores the state of the snapshot, which stays. This is an act.");
        LessonHorses stable = new LessonHorses();
        stable.keep();
        due.is("restore() of the same state", stable.restore(), 0);
        due.is("count(17)", stable.count(17), 1);
        stable.pass(4);
        for (int states = 3; states <= 6; states++) {
            stable.restore();
            due.is("count(17)", stable.count(17), Math.min(states, 4));
        }
        due.is("undo()", stable.undo(), 3);
        due.is("undo()", stable.undo(), 2);
        due.is("undo()", stable.undo(), 1);
        due.is("time", stable.count(0), 0);
        due.is("undo() of the first restore() behind pass()", stable.undo(), 0);
        due.is("time", stable.count(0), 4);
    }

    /** Acts by which everything that a state has differs from that of a new stable. */
    private static LessonHorses changed() {
        LessonHorses stable = Given.heavyRiders(3);
        stable.setHorse(9, 125, 9);
        for (int which = 0; which < 5; which++) {
            stable.set(which, new int[] {9, 98, 50, 97, 2}[which]);
        }
        stable.book(0, 0, 1);
        stable.book(1, 1, 0);
        stable.book(2, 2, 0);
        stable.book(2, 2, 1);
        stable.book(90, 0, 11);
        stable.pass(4);
        stable.setHorse(9, 126, 8);
        stable.book(5, 0, 2);
        return stable;
    }

    private static void stateIsEverythingBut() {
        due.sentence("A state is everything but the text, the history and the snapshot.");
        int[] before = Given.allTold(changed());
        LessonHorses undone = changed();
        undone.keep();
        undone.setHorse(9, 20, 0);
        undone.undo();
        isAsBefore("undo() of setHorse", undone, before);
        LessonHorses passed = changed();
        passed.pass(99);
        passed.undo();
        isAsBefore("undo() of pass", passed, before);
        LessonHorses restored = changed();
        restored.keep();
        restored.pass(99);
        restored.set(4, 9);
        restored.setRider(2, 20, 9);
        restored.setHorse(0, 20, 9);
        restored.book(0, 0, 0);
        restored.restore();
        isAsBefore("restore()", restored, before);
        LessonHorses both = changed();
        both.keep();
        both.pass(9);
        both.restore();
        both.pass(20);
        both.undo();
        isAsBefore("undo() back to the snapshot", both, before);
    }

    /** The history may be shorter behind undo(), but nothing else may be other. */
    private static void isAsBefore(String what, LessonHorses stable, int[] before) {
        int[] told = Given.allTold(stable);
        for (int index = 0; index < before.length; index++) {
            if (index != 17) {
                due.is("told " + index + " behind " + what, told[index], before[index]);
            }
        }
    }

    private static void textIsNoState() {
        due.sentence("A state is everything but the text");
        LessonHorses stable = new LessonHorses();
        Given.type(stable, "+0/0:0");
        stable.keep();
        stable.bookPlan();
        stable.type(',');
        stable.type('1');
        due.is("undo()", stable.undo(), 0);
        due.is("the text stays behind undo()", stable.count(18), 8);
        due.is("it is the same", stable.bookPlan(), 2);
        due.is("restore()", stable.restore(), 0);
        due.is("the text stays behind restore()", stable.count(18), 8);
        due.is("it is the same still", stable.bookPlan(), 2);
        stable.clearText();
        stable.undo();
        stable.restore();
        due.is("nor does an old text come back", stable.count(18), 0);
    }

    private static void historyIsNoState() {
        due.sentence("A state is everything but [..] the history");
        LessonHorses stable = actsUpTo(2);
        stable.keep();
        stable.set(3, 30);
        stable.restore();
        due.is("restore() adds to the history", stable.count(17), 4);
        stable.restore();
        int[] values = {2, 30, 2, 1};
        for (int undone = 0; undone < 4; undone++) {
            due.is("undo()", stable.undo(), 3 - undone);
            due.is("the setting", stable.count(15), values[undone]);
        }
    }

    private static void snapshotIsNoState() {
        due.sentence("A state is everything but [..] the snapshot.");
        LessonHorses stable = actsUpTo(3);
        stable.keep();
        stable.undo();
        stable.undo();
        due.is("the setting behind undo()", stable.count(15), 1);
        due.is("undo() did not take the snapshot", stable.restore(), 0);
        due.is("the setting behind restore()", stable.count(15), 3);
        stable.undo();
        stable.keep();
        stable.set(3, 70);
        stable.undo();
        stable.undo();
        due.is("undo() did not bring the old snapshot", stable.restore(), 0);
        due.is("the setting behind restore()", stable.count(15), 1);
    }

    private static void keepReturnsTheTime() {
        due.sentence("Returns the time then; NONE if there is no snapshot.");
        LessonHorses stable = Given.atTheEnd();
        due.is("keep() at the last time", stable.keep(), 9999);
        due.is("undo()", stable.undo(), 3);
        due.is("time", stable.count(0), 9900);
        due.is("restore() to the last time", stable.restore(), 9999);
        due.is("pass(1) behind", stable.pass(1), Given.FULL);
        LessonHorses other = new LessonHorses();
        other.keep();
        other.pass(99);
        due.is("restore() to the first time", other.restore(), 0);
    }

    private static void fiveHundredTwelveCalls() {
        due.sentence("An object is used for at most 512 calls after it has been made");
        LessonHorses stable = new LessonHorses();
        for (int call = 1; call <= 500; call++) {
            due.is("the call " + call, stable.setRider(11, 20 + call % 131, 0), call == 1 ? 106 : 20 + (call - 1) % 131);
        }
        due.is("the call 501", stable.count(17), 4);
        for (int left = 3; left >= 0; left--) {
            due.is("undo()", stable.undo(), left);
        }
        due.is("the call 506", stable.rider(11, 0), 20 + 496 % 131);
        due.is("the call 507", stable.undo(), Given.NONE);
        due.is("the call 508", stable.pass(99), 0);
        due.is("the call 509", stable.ifPassed(99, 0), 0);
        due.is("the call 510", stable.takenIn(9, 11), 0);
        due.is("the call 511", stable.type('x'), 1);
        due.is("the call 512", stable.bookPlan(), -100);
    }
}
