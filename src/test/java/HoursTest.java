/** Promise 7 (pass), with all that an hour brings: the farrier, lessons, falls, strains, rest and nights. */
public final class HoursTest {
    private static final int BAD_VALUE = -2;
    private static final int FULL = -3;
    private static final int NONE = -5;
    private static final int HEAVY = 121;

    private static final Due due = new Due("HoursTest");

    public static void main(String[] args) {
        promise7WrongInputs();
        promise7BoundOfTheTime();
        promise7RidersInTheOrderOfBookings();
        promise7OneHorseForTwoRiders();
        promise7LeftOut();
        promise7BestHorse();
        promise7Tiredness();
        promise7Night();
        promise7Shoes();
        promise7FarrierTakesTheLowest();
        promise7FarrierTakesTheLongestWorn();
        promise7FarriersDays();
        promise7Strains();
        promise7LameForOneHour();
        promise7FarrierHasALameHorse();
        promise7Fall();
        promise7FearHasBounds();
        promise7SkillGrows();
        promise7IsOneAct();
        due.finish();
    }

    /** A stable on the day 1, on which the farrier is not there, with a rider 0 that only the horse 9 can carry. */
    private static LessonHorses withHeavyRider(int skill) {
        LessonHorses stable = new LessonHorses();
        stable.pass(10);
        stable.set(2, 0);
        stable.setRider(0, HEAVY, skill);
        return stable;
    }

    private static int ride(LessonHorses stable) {
        stable.book(0, 0, 0);
        return stable.pass(1);
    }

    private static void promise7WrongInputs() {
        LessonHorses stable = new LessonHorses();
        for (int hours : new int[] {0, -1, 100, Integer.MIN_VALUE, Integer.MAX_VALUE}) {
            due.is("pass(" + hours + ")", stable.pass(hours), BAD_VALUE);
        }
        due.is("history", stable.count(17), 0);
        due.is("pass(99)", stable.pass(99), 0);
        due.is("time", stable.count(0), 99);
        due.is("day", stable.count(1), 9);
        due.is("hour of the day", stable.count(2), 9);
    }

    private static void promise7BoundOfTheTime() {
        LessonHorses stable = new LessonHorses();
        for (int passed = 0; passed < 100; passed++) {
            due.is("pass(99)", stable.pass(99), 0);
        }
        stable.pass(1);
        due.is("time", stable.count(0), 9901);
        due.is("pass(99) beyond the bound", stable.pass(99), FULL);
        due.is("time behind FULL", stable.count(0), 9901);
        due.is("BAD_VALUE ahead of FULL", stable.pass(100), BAD_VALUE);
        due.is("pass(98) to the bound", stable.pass(98), 0);
        due.is("time", stable.count(0), 9999);
        due.is("day", stable.count(1), 999);
        due.is("hour of the day", stable.count(2), 9);
        due.is("pass(1) at the bound", stable.pass(1), FULL);
        due.is("history", stable.count(17), 4);
        due.is("a booking beyond the bound", stable.book(99, 0, 0), 1);
        due.is("ifPassed beyond the bound", stable.ifPassed(99, 0), 0);
        due.is("busiest beyond the bound", stable.busiest(), 99);
        due.is("cancel(99, 0)", stable.cancel(99, 0), 0);
        stable.book(98, 0, 0);
        due.is("a ride beyond the bound", stable.ifPassed(99, 0), 1);
        due.is("time", stable.count(0), 9999);
    }

    private static void promise7RidersInTheOrderOfBookings() {
        LessonHorses stable = new LessonHorses();
        stable.book(0, 2, 5);
        stable.book(1, 0, 1);
        stable.book(0, 0, 3);
        stable.book(0, 1, 4);
        due.is("pass(1)", stable.pass(1), 3);
        due.is("horse of 5", stable.rider(5, 9), 0);
        due.is("horse of 3", stable.rider(3, 9), 1);
        due.is("horse of 4", stable.rider(4, 9), 4);
        due.is("horse of 1", stable.rider(1, 9), NONE);
        due.is("rides of 5", stable.rider(5, 5), 1);
        due.is("bookings of 5", stable.rider(5, 8), 0);
        due.is("bookings of 1", stable.rider(1, 8), 1);
        due.is("bookings", stable.count(3), 1);
        due.is("rides", stable.count(4), 3);
        due.is("the horse 4 was taken", stable.horse(4, 6), 1);
        due.is("pass(1)", stable.pass(1), 1);
        due.is("rides", stable.count(4), 4);
        due.is("bookings", stable.count(3), 0);
    }

    private static void promise7OneHorseForTwoRiders() {
        LessonHorses stable = withHeavyRider(1);
        stable.setRider(1, HEAVY, 1);
        stable.book(0, 1, 1);
        stable.book(0, 0, 0);
        due.is("pass(1)", stable.pass(1), 1);
        due.is("horse of 1", stable.rider(1, 9), 9);
        due.is("left out", stable.rider(0, 7), 1);
        due.is("left out", stable.rider(1, 7), 0);
        due.is("tiredness", stable.horse(9, 2), 1);
        due.is("taken", stable.horse(9, 6), 1);
    }

    private static void promise7LeftOut() {
        LessonHorses stable = new LessonHorses();
        stable.setRider(0, 126, 1);
        stable.setRider(1, 125, 1);
        stable.book(0, 0, 0);
        stable.book(0, 0, 1);
        stable.book(1, 0, 0);
        due.is("pass(2)", stable.pass(2), 1);
        due.is("left out", stable.rider(0, 7), 2);
        due.is("rides of 0", stable.rider(0, 5), 0);
        due.is("lessons in a row of 0", stable.rider(0, 4), 0);
        due.is("fear of 0", stable.rider(0, 2), 0);
        due.is("horse of 0", stable.rider(0, 9), NONE);
        due.is("horse of 1", stable.rider(1, 9), 9);
        due.is("count(6)", stable.count(6), 2);
        due.is("count(4)", stable.count(4), 1);
        due.is("bookings", stable.count(3), 0);
    }

    private static void promise7BestHorse() {
        LessonHorses stable = new LessonHorses();
        stable.pass(10);
        stable.set(2, 0);
        stable.setRider(0, 111, 0);
        // The horses 7 (115, temper 3), 8 (120, temper 0) and 9 (125, temper 1) can carry the rider.
        due.is("the gentle one", stable.best(0), 8);
        stable.book(0, 0, 0);
        stable.pass(1);
        due.is("the gentle one though tired", stable.best(0), 8);
        stable.set(0, 1);
        due.is("of those not gentle the weakest, not the gentlest", stable.best(0), 7);
        stable.setHorse(9, 115, 9);
        due.is("of equals the lowest", stable.best(0), 7);
        stable.setHorse(9, 114, 9);
        due.is("the weaker", stable.best(0), 9);
        stable.setRider(0, 111, 9);
        due.is("all gentle: the weaker", stable.best(0), 9);
        stable.set(0, 3);
        due.is("all gentle: not the tired one", stable.best(0), 9);
        stable.setHorse(8, 111, 9);
        due.is("tiredness ahead of strength", stable.best(0), 9);
        stable.pass(1);
        due.is("rested and the weakest", stable.best(0), 8);
    }

    private static void promise7Tiredness() {
        LessonHorses stable = withHeavyRider(9);
        for (int hours = 0; hours < 5; hours++) {
            stable.book(hours, 0, 0);
        }
        due.is("pass(3)", stable.pass(3), 3);
        due.is("tiredness", stable.horse(9, 2), 3);
        due.is("reason", stable.reason(9, 0), 4);
        due.is("pass(2)", stable.pass(2), 1);
        due.is("left out", stable.rider(0, 7), 1);
        due.is("tiredness", stable.horse(9, 2), 3);
        due.is("shoes", stable.horse(9, 3), 4);
        due.is("pass(4)", stable.pass(4), 0);
        due.is("tiredness is at least 0", stable.horse(9, 2), 0);
        due.is("shoes", stable.horse(9, 3), 4);
        due.is("tiredness of all", stable.count(9), 0);
    }

    private static void promise7Night() {
        LessonHorses stable = withHeavyRider(9);
        stable.set(0, 9);
        for (int hours = 1; hours <= 9; hours++) {
            stable.book(hours, 0, 0);
        }
        due.is("pass(9)", stable.pass(9), 8);
        due.is("tiredness ahead of the hour 9", stable.horse(9, 2), 8);
        due.is("pass(1)", stable.pass(1), 1);
        due.is("tiredness behind the night", stable.horse(9, 2), 1);
        due.is("hour of the day", stable.count(2), 0);
        stable.book(7, 0, 0);
        stable.book(8, 0, 0);
        stable.pass(9);
        due.is("tiredness", stable.horse(9, 2), 2);
        stable.pass(1);
        due.is("tiredness is at least 0 behind the night", stable.horse(9, 2), 0);
    }

    private static void promise7Shoes() {
        LessonHorses stable = withHeavyRider(9);
        stable.set(1, 2);
        stable.set(0, 9);
        due.is("first ride", ride(stable), 1);
        due.is("second ride", ride(stable), 1);
        due.is("shoes", stable.horse(9, 3), 2);
        due.is("reason", stable.reason(9, 0), 3);
        due.is("third ride", ride(stable), 0);
        due.is("left out", stable.rider(0, 7), 1);
        due.is("the farrier comes at 30 and has it for an hour", stable.takenIn(9, 0), 18);
        due.is("pass(17)", stable.pass(17), 0);
        due.is("reason at 30", stable.reason(9, 0), 2);
        due.is("ride at 30", ride(stable), 0);
        due.is("shoes", stable.horse(9, 3), 0);
        due.is("shod", stable.horse(9, 8), 1);
        due.is("ride at 31", ride(stable), 1);
    }

    private static void promise7FarrierTakesTheLowest() {
        LessonHorses stable = new LessonHorses();
        stable.book(0, 0, 0);
        stable.book(0, 0, 1);
        stable.pass(1);
        due.is("the farrier's horse", stable.count(11), 0);
        stable.book(0, 0, 0);
        stable.pass(1);
        due.is("the rider took another", stable.rider(0, 9), 4);
        due.is("shoes of 0", stable.horse(0, 3), 0);
        due.is("shod 0", stable.horse(0, 8), 1);
        due.is("tiredness of 0", stable.horse(0, 2), 0);
        due.is("the farrier's horse", stable.count(11), 1);
        stable.pass(1);
        due.is("shoes of 1", stable.horse(1, 3), 0);
        due.is("the farrier's horse", stable.count(11), 4);
        stable.pass(1);
        due.is("nothing is worn", stable.count(11), NONE);
        due.is("the farrier is there", stable.count(10), 1);
        stable.pass(5);
        due.is("in the hour 9", stable.count(10), 1);
        stable.pass(1);
        due.is("not on the day 1", stable.count(10), 0);
        due.is("shod", stable.count(8), 3);
    }

    private static void promise7FarrierTakesTheLongestWorn() {
        LessonHorses stable = new LessonHorses();
        stable.pass(10);
        stable.setRider(0, 81, 1);
        stable.book(0, 0, 0);
        stable.book(0, 0, 1);
        stable.book(2, 0, 0);
        stable.pass(19);
        due.is("shoes of 0", stable.horse(0, 3), 1);
        due.is("shoes of 1", stable.horse(1, 3), 2);
        due.is("not in the hour 29", stable.count(11), NONE);
        stable.pass(1);
        due.is("in the hour 30", stable.count(11), 1);
        stable.pass(1);
        due.is("in the hour 31", stable.count(11), 0);
        stable.pass(1);
        due.is("in the hour 32", stable.count(11), NONE);
        due.is("shod", stable.count(8), 2);
    }

    private static void promise7FarriersDays() {
        for (int days = 1; days <= 9; days++) {
            LessonHorses stable = new LessonHorses();
            stable.set(4, days);
            for (int day = 0; day < 20; day++) {
                due.is("day " + day + " by " + days, stable.count(10), day % days == 0 ? 1 : 0);
                stable.pass(10);
            }
        }
    }

    private static void promise7Strains() {
        LessonHorses stable = withHeavyRider(9);
        stable.set(2, 4);
        due.is("ride", ride(stable), 1);
        due.is("121 and 4 are not above 125", stable.horse(9, 4), 0);
        stable.set(2, 5);
        ride(stable);
        due.is("strains", stable.horse(9, 4), 1);
        stable.pass(1);
        ride(stable);
        due.is("strains", stable.horse(9, 4), 2);
        due.is("lame", stable.horse(9, 5), 0);
        stable.pass(1);
        ride(stable);
        due.is("no strains with the third", stable.horse(9, 4), 0);
        due.is("lame", stable.horse(9, 5), 20);
        due.is("count(7)", stable.count(7), 1);
        due.is("reason", stable.reason(9, 0), 1);
        due.is("a ride", ride(stable), 0);
        due.is("lame an hour later", stable.horse(9, 5), 19);
        due.is("takenIn", stable.takenIn(9, 0), 19);
        stable.pass(18);
        due.is("lame", stable.horse(9, 5), 1);
        due.is("reason", stable.reason(9, 0), 1);
        stable.pass(1);
        due.is("lame", stable.horse(9, 5), 0);
        due.is("count(7)", stable.count(7), 0);
        due.is("reason", stable.reason(9, 0), 0);
    }

    private static void promise7LameForOneHour() {
        LessonHorses stable = withHeavyRider(9);
        stable.set(2, 50);
        stable.set(3, 1);
        for (int hours = 0; hours < 5; hours++) {
            stable.book(hours, 0, 0);
        }
        due.is("pass(3)", stable.pass(3), 3);
        due.is("lame behind the hour in which it became so", stable.horse(9, 5), 1);
        due.is("ride on a lame horse", stable.pass(1), 0);
        due.is("lame", stable.horse(9, 5), 0);
        due.is("ride again", stable.pass(1), 1);
        due.is("strains", stable.horse(9, 4), 1);
    }

    private static void promise7FarrierHasALameHorse() {
        LessonHorses stable = withHeavyRider(9);
        stable.set(2, 50);
        stable.set(3, 99);
        for (int hours = 0; hours < 3; hours++) {
            stable.book(hours, 0, 0);
        }
        stable.pass(20);
        due.is("lame", stable.horse(9, 5), 82);
        due.is("the farrier's horse", stable.count(11), 9);
        due.is("reason: lame ahead of the farrier", stable.reason(9, 0), 1);
        stable.pass(1);
        due.is("lame", stable.horse(9, 5), 81);
        due.is("shoes", stable.horse(9, 3), 0);
        due.is("shod", stable.horse(9, 8), 1);
        due.is("takenIn", stable.takenIn(9, 0), 81);
    }

    private static void promise7Fall() {
        LessonHorses stable = withHeavyRider(4);
        stable.setHorse(9, 125, 5);
        due.is("a rider who falls rode", ride(stable), 1);
        int[] facts = {HEAVY, 4, 1, 3, 0, 1, 1, 0, 0, 9};
        for (int what = 0; what < facts.length; what++) {
            due.is("rider(0, " + what + ") behind a fall", stable.rider(0, what), facts[what]);
        }
        due.is("falls from 9", stable.horse(9, 7), 1);
        due.is("count(5)", stable.count(5), 1);
        due.is("time of the fall", stable.fall(0, 0), 10);
        due.is("rider of the fall", stable.fall(0, 1), 0);
        due.is("horse of the fall", stable.fall(0, 2), 9);
        stable.setHorse(9, 125, 3);
        stable.pass(1);
        due.is("temper 3 is not above 3", ride(stable), 1);
        due.is("fear", stable.rider(0, 2), 0);
        due.is("what the rider can do", stable.rider(0, 3), 4);
        due.is("lessons in a row", stable.rider(0, 4), 1);
        due.is("falls", stable.rider(0, 6), 1);
        stable.setHorse(9, 125, 9);
        stable.pass(1);
        ride(stable);
        due.is("lessons in a row behind a fall", stable.rider(0, 4), 0);
        due.is("falls", stable.rider(0, 6), 2);
    }

    private static void promise7FearHasBounds() {
        LessonHorses stable = withHeavyRider(4);
        stable.set(1, 99);
        stable.set(4, 9);
        stable.setHorse(9, 125, 9);
        for (int falls = 1; falls <= 11; falls++) {
            due.is("ride " + falls, ride(stable), 1);
            due.is("fear behind fall " + falls, stable.rider(0, 2), Math.min(falls, 9));
            due.is("what the rider can do behind fall " + falls, stable.rider(0, 3), Math.max(4 - falls, 0));
            stable.pass(1);
        }
        stable.setHorse(9, 125, 0);
        ride(stable);
        due.is("fear behind a lesson without a fall", stable.rider(0, 2), 8);
        stable.setRider(0, HEAVY, 4);
        stable.pass(1);
        ride(stable);
        due.is("fear is at least 0", stable.rider(0, 2), 0);
    }

    private static void promise7SkillGrows() {
        LessonHorses stable = withHeavyRider(7);
        stable.set(1, 99);
        stable.set(4, 9);
        for (int lessons = 1; lessons <= 12; lessons++) {
            ride(stable);
            due.is("lessons in a row", stable.rider(0, 4), lessons);
            due.is("skill behind lesson " + lessons, stable.rider(0, 1), Math.min(7 + lessons / 3, 9));
            stable.pass(1);
        }
    }

    private static void promise7IsOneAct() {
        LessonHorses stable = new LessonHorses();
        for (int hours = 0; hours < 10; hours++) {
            stable.book(hours, 0, 0);
        }
        due.is("pass(10)", stable.pass(10), 10);
        due.is("history", stable.count(17), 4);
        due.is("undo()", stable.undo(), 3);
        due.is("time", stable.count(0), 0);
        due.is("bookings", stable.count(3), 10);
        due.is("rides", stable.count(4), 0);
        due.is("shod", stable.count(8), 0);
        due.is("pass(10) again", stable.pass(10), 10);
    }
}
