/** Promises 17 to 21 and 23: fall, reason, best, takenIn, ifPassed, count. */
public final class TellingTest {
    private static final int UNKNOWN = -1;
    private static final int BAD_VALUE = -2;
    private static final int NONE = -5;
    private static final int LEAST = Integer.MIN_VALUE;
    private static final int MOST = Integer.MAX_VALUE;

    private static final Due due = new Due("TellingTest");

    public static void main(String[] args) {
        promise17TwentyFallsAreKept();
        promise17FallsOfOneHour();
        promise17WrongInputs();
        promise18Order();
        promise18WrongInputs();
        promise19Best();
        promise19WrongInputs();
        promise20TakenIn();
        promise20NoLessonsAreGiven();
        promise20LessonsWouldOccupyTheFarrier();
        promise20StrengthEqualToWeight();
        promise20BeyondTheBoundOfTheTime();
        promise20WrongInputs();
        promise21IfPassed();
        promise21ChangesNothing();
        promise21LearnsOnTheWay();
        promise21WrongInputs();
        promise23Count();
        promise23WrongInputs();
        due.finish();
    }

    private static LessonHorses onDayOne() {
        LessonHorses stable = new LessonHorses();
        stable.pass(10);
        return stable;
    }

    private static void promise17TwentyFallsAreKept() {
        LessonHorses stable = onDayOne();
        stable.set(2, 0);
        stable.set(1, 99);
        stable.set(4, 9);
        stable.setHorse(9, 125, 9);
        stable.setRider(7, 121, 0);
        for (int falls = 1; falls <= 23; falls++) {
            stable.book(0, 2, 7);
            due.is("pass(2)", stable.pass(2), 1);
            int kept = Math.min(falls, 20);
            due.is("time of the latest", stable.fall(0, 0), 8 + 2 * falls);
            due.is("time of the oldest", stable.fall(kept - 1, 0), 8 + 2 * (falls - kept + 1));
            due.is("no more than kept", stable.fall(kept, 0), NONE);
            due.is("count(5)", stable.count(5), falls);
        }
        for (int rank = 0; rank < 20; rank++) {
            due.is("fall(" + rank + ", 0)", stable.fall(rank, 0), 8 + 2 * (23 - rank));
            due.is("fall(" + rank + ", 1)", stable.fall(rank, 1), 7);
            due.is("fall(" + rank + ", 2)", stable.fall(rank, 2), 9);
        }
        due.is("fall(20, 2)", stable.fall(20, 2), NONE);
        due.is("a rank far away", stable.fall(MOST, 2), NONE);
        due.is("falls of the rider", stable.rider(7, 6), 23);
        due.is("falls from the horse", stable.horse(9, 7), 23);
        stable.undo();
        stable.undo();
        due.is("the latest behind undo of the ride", stable.fall(0, 0), 8 + 2 * 22);
        due.is("the oldest behind undo of the ride", stable.fall(19, 0), 8 + 2 * 3);
    }

    private static void promise17FallsOfOneHour() {
        LessonHorses stable = onDayOne();
        stable.setHorse(4, 60, 8);
        stable.setHorse(6, 70, 9);
        stable.setRider(2, 59, 0);
        stable.setRider(1, 69, 0);
        for (int horse : new int[] {0, 1, 2, 3, 5, 7, 8, 9}) {
            stable.setHorse(horse, 20, 0);
        }
        stable.book(0, 1, 1);
        stable.book(0, 0, 2);
        due.is("pass(1)", stable.pass(1), 2);
        due.is("the later one", stable.fall(0, 1), 2);
        due.is("its horse", stable.fall(0, 2), 4);
        due.is("the earlier one", stable.fall(1, 1), 1);
        due.is("its horse", stable.fall(1, 2), 6);
        due.is("its time", stable.fall(1, 0), 10);
        due.is("no third one", stable.fall(2, 0), NONE);
    }

    private static void promise17WrongInputs() {
        LessonHorses stable = new LessonHorses();
        due.is("fall(-1, 0)", stable.fall(-1, 0), BAD_VALUE);
        due.is("fall(MIN, 0)", stable.fall(LEAST, 0), BAD_VALUE);
        for (int what : new int[] {-1, 3, LEAST, MOST}) {
            due.is("fall(0, " + what + ")", stable.fall(0, what), BAD_VALUE);
            due.is("fall(99, " + what + ")", stable.fall(99, what), BAD_VALUE);
        }
        due.is("fall(0, 0)", stable.fall(0, 0), NONE);
    }

    private static void promise18Order() {
        LessonHorses stable = onDayOne();
        stable.setRider(0, 121, 9);
        stable.setRider(1, 150, 9);
        stable.set(2, 50);
        stable.book(0, 0, 0);
        stable.pass(1);
        due.is("it can", stable.reason(9, 0), 0);
        due.is("too weak", stable.reason(9, 1), 5);
        due.is("strength just enough", stable.reason(0, 6), 0);
        stable.setRider(6, 80, 0);
        due.is("strength equal to weight", stable.reason(0, 6), 0);
        stable.setRider(6, 81, 0);
        due.is("strength below weight", stable.reason(0, 6), 5);
        stable.set(0, 1);
        due.is("too tired", stable.reason(9, 0), 4);
        due.is("too tired ahead of too weak", stable.reason(9, 1), 4);
        stable.set(1, 1);
        due.is("worn shoes ahead of too tired", stable.reason(9, 0), 3);
        due.is("worn shoes ahead of all behind", stable.reason(9, 1), 3);
        stable.set(4, 1);
        due.is("the farrier ahead of worn shoes", stable.reason(9, 0), 2);
        due.is("the farrier ahead of all behind", stable.reason(9, 1), 2);
        stable.set(4, 3);
        stable.set(1, 99);
        stable.set(0, 9);
        stable.book(0, 0, 0);
        stable.book(1, 0, 0);
        stable.pass(2);
        due.is("lame", stable.reason(9, 0), 1);
        stable.set(4, 1);
        stable.set(1, 1);
        stable.set(0, 1);
        due.is("the farrier's horse", stable.count(11), 9);
        due.is("lame ahead of all", stable.reason(9, 1), 1);
    }

    private static void promise18WrongInputs() {
        LessonHorses stable = new LessonHorses();
        for (int horse : new int[] {-1, 10, LEAST, MOST}) {
            due.is("reason(" + horse + ", 0)", stable.reason(horse, 0), UNKNOWN);
            due.is("takenIn(" + horse + ", 0)", stable.takenIn(horse, 0), UNKNOWN);
        }
        for (int rider : new int[] {-1, 12, LEAST, MOST}) {
            due.is("reason(0, " + rider + ")", stable.reason(0, rider), UNKNOWN);
            due.is("takenIn(0, " + rider + ")", stable.takenIn(0, rider), UNKNOWN);
        }
        due.is("reason(9, 11)", stable.reason(9, 11), 0);
        due.is("takenIn(9, 11)", stable.takenIn(9, 11), 0);
    }

    private static void promise19Best() {
        LessonHorses stable = new LessonHorses();
        int[] bests = {0, 0, 0, 0, 0, 0, 0, 1, 4, 4, 4, 8};
        for (int rider = 0; rider < 12; rider++) {
            due.is("best(" + rider + ")", stable.best(rider), bests[rider]);
        }
        stable.setRider(0, 40, 0);
        due.is("skill 0", stable.best(0), 0);
        stable.setHorse(0, 80, 1);
        due.is("skill 0, the horse 0 is not gentle any more", stable.best(0), 4);
        stable.setRider(0, 40, 2);
        due.is("skill 2", stable.best(0), 0);
        stable.setHorse(2, 80, 2);
        due.is("of equals the lowest", stable.best(0), 0);
        stable.setHorse(2, 79, 2);
        due.is("the least strength", stable.best(0), 2);
        stable.setHorse(2, 79, 3);
        due.is("not gentle", stable.best(0), 0);
        stable.setRider(0, 125, 0);
        due.is("the only one that can carry", stable.best(0), 9);
        stable.setRider(0, 126, 0);
        due.is("too heavy for all", stable.best(0), NONE);
        stable.setRider(0, 40, 1);
        stable.book(0, 0, 0);
        stable.pass(1);
        due.is("not the farrier's", stable.count(11), 0);
        due.is("but the next one", stable.best(0), 1);
        due.is("a booking in the next hour does not matter", stable.book(0, 0, 1), 1);
        due.is("best as the first one", stable.best(0), 1);
    }

    private static void promise19WrongInputs() {
        LessonHorses stable = new LessonHorses();
        for (int rider : new int[] {-1, 12, LEAST, MOST}) {
            due.is("best(" + rider + ")", stable.best(rider), UNKNOWN);
        }
    }

    private static void promise20TakenIn() {
        LessonHorses stable = new LessonHorses();
        stable.set(0, 9);
        stable.set(2, 0);
        stable.set(4, 9);
        stable.set(1, 2);
        stable.setRider(0, 121, 9);
        stable.pass(10);
        stable.book(0, 0, 0);
        stable.book(1, 0, 0);
        stable.pass(2);
        due.is("worn shoes until the day 9, an hour for the farrier", stable.takenIn(9, 0), 79);
        due.is("too weak ever", stable.takenIn(8, 0), NONE);
        stable.set(1, 99);
        due.is("in the next hour", stable.takenIn(9, 0), 0);
        stable.set(0, 1);
        due.is("rested in two hours", stable.takenIn(9, 0), 2);
        stable.set(0, 2);
        due.is("rested in an hour", stable.takenIn(9, 0), 1);
        due.is("the time stays", stable.count(0), 12);
        due.is("the tiredness stays", stable.horse(9, 2), 2);
        due.is("nothing is recorded", stable.undo(), 3);
    }

    private static void promise20NoLessonsAreGiven() {
        LessonHorses stable = onDayOne();
        stable.set(0, 2);
        stable.set(2, 0);
        stable.setRider(0, 121, 9);
        stable.setRider(1, 121, 9);
        for (int hours = 0; hours < 10; hours++) {
            stable.book(hours, 0, 0);
        }
        stable.pass(2);
        due.is("tiredness", stable.horse(9, 2), 2);
        due.is("rested though bookings wait", stable.takenIn(9, 1), 1);
        due.is("bookings stay", stable.count(3), 8);
        stable.pass(7);
        due.is("tiredness at 19", stable.horse(9, 2), 1);
        stable.set(0, 1);
        due.is("a night", stable.takenIn(9, 1), 1);
    }

    private static void promise20LessonsWouldOccupyTheFarrier() {
        LessonHorses stable = onDayOne();
        stable.set(1, 2);
        stable.set(2, 0);
        stable.setRider(0, 121, 9);
        stable.book(0, 0, 0);
        stable.book(1, 0, 0);
        stable.book(1, 0, 1);
        stable.book(4, 0, 1);
        stable.pass(2);
        due.is("shoes of 0", stable.horse(0, 3), 1);
        due.is("shoes of 9", stable.horse(9, 3), 2);
        due.is("the horse 9 is the farrier's first one", stable.takenIn(9, 0), 19);
        stable.pass(3);
        due.is("shoes of 0 behind the lesson", stable.horse(0, 3), 2);
        due.is("the horse 9 is his second one now", stable.takenIn(9, 0), 17);
    }

    private static void promise20StrengthEqualToWeight() {
        LessonHorses stable = new LessonHorses();
        stable.setRider(0, 80, 1);
        due.is("strength equal to weight", stable.takenIn(0, 0), 0);
        stable.setRider(0, 81, 1);
        due.is("strength below weight", stable.takenIn(0, 0), NONE);
    }

    private static void promise20BeyondTheBoundOfTheTime() {
        LessonHorses stable = new LessonHorses();
        for (int passed = 0; passed < 100; passed++) {
            stable.pass(99);
        }
        stable.set(3, 99);
        stable.set(2, 50);
        // The day 990 is none of the farrier's days then.
        stable.set(4, 7);
        stable.setRider(0, 121, 9);
        for (int hours = 0; hours < 3; hours++) {
            stable.book(hours, 0, 0);
        }
        due.is("pass(95)", stable.pass(95), 3);
        due.is("lame", stable.horse(9, 5), 7);
        due.is("takenIn", stable.takenIn(9, 0), 7);
        due.is("time", stable.count(0), 9995);
    }

    private static void promise20WrongInputs() {
        LessonHorses stable = new LessonHorses();
        due.is("takenIn(0, -1)", stable.takenIn(0, -1), UNKNOWN);
        due.is("takenIn(10, 12)", stable.takenIn(10, 12), UNKNOWN);
        due.is("takenIn(0, 7)", stable.takenIn(0, 7), NONE);
        due.is("takenIn(1, 7)", stable.takenIn(1, 7), 0);
    }

    private static LessonHorses withTrouble() {
        LessonHorses stable = onDayOne();
        stable.set(2, 50);
        stable.set(3, 10);
        stable.setRider(0, 121, 9);
        stable.setRider(1, 126, 9);
        stable.setRider(2, 115, 0);
        stable.setHorse(7, 115, 9);
        stable.setHorse(8, 100, 0);
        for (int hours = 0; hours < 3; hours++) {
            stable.book(hours, 0, 0);
            stable.book(hours, 0, 1);
        }
        stable.book(1, 1, 2);
        return stable;
    }

    private static void promise21IfPassed() {
        LessonHorses stable = withTrouble();
        int[][] due1to4 = {{1, 1, 0, 0}, {3, 2, 1, 0}, {4, 3, 1, 1}, {4, 3, 1, 1}};
        for (int hours = 1; hours <= 4; hours++) {
            for (int what = 0; what < 4; what++) {
                due.is("ifPassed(" + hours + ", " + what + ")", stable.ifPassed(hours, what), due1to4[hours - 1][what]);
            }
        }
        due.is("lame in 12 hours", stable.ifPassed(12, 3), 1);
        due.is("lame in 13 hours", stable.ifPassed(13, 3), 0);
        due.is("rides in 99 hours", stable.ifPassed(99, 0), 4);
        due.is("pass(2)", stable.pass(2), 3);
        due.is("ifPassed(1, 0) behind", stable.ifPassed(1, 0), 1);
        due.is("ifPassed(1, 1) behind", stable.ifPassed(1, 1), 1);
        due.is("ifPassed(1, 2) behind", stable.ifPassed(1, 2), 0);
        due.is("ifPassed(1, 3) behind", stable.ifPassed(1, 3), 1);
    }

    private static void promise21ChangesNothing() {
        LessonHorses stable = withTrouble();
        stable.keep();
        due.is("ifPassed(99, 2)", stable.ifPassed(99, 2), 1);
        due.is("time", stable.count(0), 10);
        due.is("bookings", stable.count(3), 7);
        due.is("falls", stable.count(5), 0);
        due.is("fall(0, 0)", stable.fall(0, 0), NONE);
        due.is("rides", stable.count(4), 0);
        due.is("history", stable.count(17), 4);
        due.is("restore()", stable.restore(), 10);
        due.is("bookings", stable.count(3), 7);
    }

    private static void promise21LearnsOnTheWay() {
        LessonHorses stable = onDayOne();
        stable.setRider(0, 121, 2);
        stable.setHorse(9, 125, 2);
        stable.set(2, 0);
        for (int hours = 0; hours < 9; hours += 2) {
            stable.book(hours, 0, 0);
        }
        due.is("rides", stable.ifPassed(9, 0), 5);
        due.is("no falls", stable.ifPassed(9, 2), 0);
        stable.setHorse(9, 125, 3);
        due.is("falls each time", stable.ifPassed(9, 2), 5);
        stable.setHorse(9, 125, 2);
        due.is("pass(6)", stable.pass(6), 3);
        due.is("skill", stable.rider(0, 1), 3);
        stable.setHorse(9, 125, 3);
        due.is("no falls any more", stable.ifPassed(3, 2), 0);
    }

    private static void promise21WrongInputs() {
        LessonHorses stable = new LessonHorses();
        for (int hours : new int[] {0, -1, 100, LEAST, MOST}) {
            due.is("ifPassed(" + hours + ", 0)", stable.ifPassed(hours, 0), BAD_VALUE);
        }
        for (int what : new int[] {-1, 4, LEAST, MOST}) {
            due.is("ifPassed(1, " + what + ")", stable.ifPassed(1, what), BAD_VALUE);
        }
    }

    private static void promise23Count() {
        LessonHorses stable = withTrouble();
        stable.type('+');
        stable.type('1');
        stable.pass(3);
        // 0 rode 9 three times, 1 was left out three times, 2 fell from 7.
        int[] counts = {13, 1, 3, 0, 4, 1, 3, 1, 0, 3, 0, NONE, 3, 12, 50, 10, 3, 4, 2};
        for (int what = 0; what < counts.length; what++) {
            due.is("count(" + what + ")", stable.count(what), counts[what]);
        }
        int rides = 0;
        int taken = 0;
        int tired = 0;
        for (int rider = 0; rider < 12; rider++) {
            rides += stable.rider(rider, 5);
        }
        for (int horse = 0; horse < 10; horse++) {
            taken += stable.horse(horse, 6);
            tired += stable.horse(horse, 2);
        }
        due.is("rides of all riders", rides, stable.count(4));
        due.is("horses taken", taken, stable.count(4));
        due.is("tiredness", tired, stable.count(9));
        stable.pass(17);
        due.is("day", stable.count(1), 3);
        due.is("the farrier is there", stable.count(10), 1);
        due.is("his horse", stable.count(11), 9);
        stable.pass(1);
        due.is("shod", stable.count(8), 1);
        due.is("his horse", stable.count(11), 7);
        due.is("lame", stable.count(7), 0);
    }

    private static void promise23WrongInputs() {
        LessonHorses stable = new LessonHorses();
        for (int what : new int[] {-1, 19, 20, LEAST, MOST}) {
            due.is("count(" + what + ")", stable.count(what), BAD_VALUE);
        }
    }
}
