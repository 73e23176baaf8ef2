/** The edges that the document names in the promises 1 to 7 and 14 to 23, sentence by sentence. */
public final class EdgesOfPromisesTest {
    private static final Due due = new Due("EdgesOfPromisesTest");

    public static void main(String[] args) {
        promise1();
        promise2();
        promise3();
        promise4();
        promise5Hours();
        promise5Returns();
        promise5NotPossible();
        promise5Full();
        promise6();
        promise7Hours();
        promise7Full();
        promise7Returns();
        promise14();
        promise15();
        promise15HorseOfTheLatestLesson();
        promise16();
        promise17TwentyAreKept();
        promise17WrapsAroundAndBack();
        promise17NotSoMany();
        promise17WrongInputs();
        promise18FirstThatHolds();
        promise18IfItWasTheFirstOne();
        promise19();
        promise20InTheNextHour();
        promise20HowMany();
        promise20LongestWaits();
        promise20NotAtAll();
        promise20BoundOfTheTime();
        promise21Hours();
        promise21What();
        promise21BoundOfTheTime();
        promise22Within100Hours();
        promise22OfSeveralTheFirst();
        promise22Nobody();
        promise23What();
        promise23Farrier();
        promise23AtTheirMost();
        due.finish();
    }

    private static void promise1() {
        due.sentence("Creates a stable with rested horses, at the time 0, without bookings.");
        LessonHorses used = new LessonHorses();
        used.setHorse(9, 20, 9);
        used.book(0, 0, 0);
        used.keep();
        used.pass(99);
        LessonHorses stable = new LessonHorses();
        due.is("time", stable.count(0), 0);
        due.is("tiredness of all", stable.count(9), 0);
        due.is("bookings", stable.count(3), 0);
        due.is("strength", stable.horse(9, 0), 125);
        due.is("history", stable.count(17), 0);
        due.is("snapshot", stable.restore(), Given.NONE);
        due.is("all can be taken", stable.ifPassed(99, 0), 0);
        for (int cell = 0; cell < 300; cell++) {
            due.is("lesson(" + cell / 3 + ", " + cell % 3 + ", 0)", stable.lesson(cell / 3, cell % 3, 0), 0);
        }
    }

    private static void promise2() {
        due.sentence("Returns the previous strength; UNKNOWN; BAD_VALUE; NONE if both are so already.");
        for (int horse : new int[] {0, 9}) {
            LessonHorses stable = new LessonHorses();
            int strength = 80 + 5 * horse;
            int temper = horse % 4;
            due.is("both are so", stable.setHorse(horse, strength, temper), Given.NONE);
            due.is("history", stable.count(17), 0);
            due.is("only the strength is so", stable.setHorse(horse, strength, 9), strength);
            due.is("temper", stable.horse(horse, 1), 9);
            due.is("only the temper is so", stable.setHorse(horse, 20, 9), strength);
            due.is("strength", stable.horse(horse, 0), 20);
            due.is("neither is so", stable.setHorse(horse, 150, 0), 20);
            due.is("both are so", stable.setHorse(horse, 150, 0), Given.NONE);
            due.is("history", stable.count(17), 3);
            due.is("another horse", stable.horse(5, 0), 105);
        }
    }

    private static void promise3() {
        due.sentence("Sets the weight and the skill of a rider; fear, and lessons in a row without a fall, are 0 then.");
        for (int rider : new int[] {0, 11}) {
            LessonHorses stable = new LessonHorses();
            due.is("to the least", stable.setRider(rider, 20, 0), 40 + 6 * rider);
            due.is("to the same", stable.setRider(rider, 20, 0), 20);
            due.is("to the most", stable.setRider(rider, 150, 9), 20);
            due.is("to the same", stable.setRider(rider, 150, 9), 150);
            due.is("history", stable.count(17), 4);
        }
        LessonHorses stable = Given.freshHorse(9);
        Given.ride(stable, 1);
        due.is("lessons in a row", stable.rider(0, 4), 1);
        stable.setRider(0, Given.HEAVY, 9);
        due.is("to the same: lessons in a row", stable.rider(0, 4), 0);
        due.is("to the same: rides", stable.rider(0, 5), 1);
        stable.setHorse(9, 125, 9);
        stable.setRider(0, Given.HEAVY, 8);
        Given.ride(stable, 1);
        due.is("fear", stable.rider(0, 2), 1);
        stable.setRider(0, Given.HEAVY, 8);
        due.is("to the same: fear", stable.rider(0, 2), 0);
        due.is("to the same: falls", stable.rider(0, 6), 1);
    }

    private static void promise4() {
        due.sentence("Returns the previous one; UNKNOWN; BAD_VALUE; NONE if it is so already.");
        int[] first = {3, 12, 5, 20, 3};
        for (int which = 0; which < 5; which++) {
            LessonHorses stable = new LessonHorses();
            due.is("set(" + which + ") to what it is", stable.set(which, first[which]), Given.NONE);
            due.is("set(" + which + ") to 1 more", stable.set(which, first[which] + 1), first[which]);
            due.is("set(" + which + ") to it again", stable.set(which, first[which] + 1), Given.NONE);
            due.is("set(" + which + ") back", stable.set(which, first[which]), first[which] + 1);
            due.is("history", stable.count(17), 2);
        }
    }

    private static void promise5Hours() {
        due.sentence("`hours`: 0 to 99: how many hours from now on (0 for the hour that comes next)");
        LessonHorses stable = new LessonHorses();
        for (int hours : Given.NO_HOURS_FROM_NOW) {
            due.is("book(" + hours + ", 0, 0)", stable.book(hours, 0, 0), Given.BAD_VALUE);
            due.is("cancel(" + hours + ", 0)", stable.cancel(hours, 0), Given.BAD_VALUE);
            due.is("lesson(" + hours + ", 0, 0)", stable.lesson(hours, 0, 0), Given.BAD_VALUE);
        }
        due.is("book(0, 0, 0)", stable.book(0, 0, 0), 1);
        due.is("book(99, 2, 11)", stable.book(99, 2, 11), 1);
        due.is("lesson(99, 2, 2)", stable.lesson(99, 2, 2), 2048);
        due.is("the hour that comes next", stable.pass(1), 1);
        due.is("lesson(98, 2, 2)", stable.lesson(98, 2, 2), 2048);
        due.is("98 hours", stable.pass(98), 0);
        due.is("the last one", stable.pass(1), 1);
        due.is("who rode", stable.rider(11, 5), 1);
    }

    private static void promise5Returns() {
        due.sentence("Returns how many are booked for this time and ring then");
        LessonHorses stable = new LessonHorses();
        due.is("the first one", stable.book(5, 1, 0), 1);
        due.is("the first one in another ring", stable.book(5, 0, 1), 1);
        due.is("the first one at another time", stable.book(6, 1, 1), 1);
        due.is("the second one", stable.book(5, 1, 2), 2);
        due.is("the third one", stable.book(5, 1, 3), 3);
        stable.cancel(5, 2);
        due.is("the third one again", stable.book(5, 1, 4), 3);
    }

    private static void promise5NotPossible() {
        due.sentence("NOT_POSSIBLE if the rider is booked for this time already");
        LessonHorses stable = new LessonHorses();
        stable.book(5, 1, 11);
        for (int ring = 0; ring < 3; ring++) {
            due.is("in the ring " + ring, stable.book(5, ring, 11), Given.NOT_POSSIBLE);
        }
        due.is("an hour earlier", stable.book(4, 1, 11), 1);
        due.is("an hour later", stable.book(6, 1, 11), 1);
        stable.cancel(5, 11);
        due.is("behind cancel", stable.book(5, 2, 11), 1);
        stable.pass(1);
        due.is("the same time, an hour later", stable.book(4, 0, 11), Given.NOT_POSSIBLE);
        stable.pass(5);
        due.is("behind the lesson", stable.book(5, 0, 11), 1);
    }

    private static void promise5Full() {
        due.sentence("FULL if the ring has no room at this time, or 40 bookings wait.");
        int[] rooms = {4, 3, 2};
        for (int ring = 0; ring < 3; ring++) {
            LessonHorses stable = new LessonHorses();
            for (int rider = 0; rider < rooms[ring]; rider++) {
                due.is("into the ring " + ring, stable.book(8, ring, rider), rider + 1);
            }
            due.is("no room in the ring " + ring, stable.book(8, ring, 9), Given.FULL);
            due.is("an hour earlier", stable.book(7, ring, 9), 1);
            due.is("an hour later", stable.book(9, ring, 9), 1);
            due.is("another ring", stable.book(8, (ring + 1) % 3, 9), 1);
            stable.cancel(8, 0);
            due.is("room behind cancel", stable.book(8, ring, 10), rooms[ring]);
            due.is("no room again", stable.book(8, ring, 11), Given.FULL);
        }
        LessonHorses forty = Given.fortyBookings();
        for (int ring = 0; ring < 3; ring++) {
            due.is("40 wait, the ring " + ring, forty.book(99, ring, 11), Given.FULL);
        }
        due.is("cancel", forty.cancel(9, 3), 0);
        due.is("39 wait", forty.book(99, 2, 11), 1);
        due.is("40 wait again", forty.book(99, 2, 10), Given.FULL);
    }

    private static void promise6() {
        due.sentence("Returns the ring; UNKNOWN; BAD_VALUE; NONE if the rider is not booked for this time.");
        LessonHorses stable = new LessonHorses();
        due.is("without bookings", stable.cancel(0, 0), Given.NONE);
        for (int ring = 0; ring < 3; ring++) {
            stable.book(0, ring, ring);
            stable.book(99, ring, 9 + ring);
        }
        due.is("another hour", stable.cancel(1, 0), Given.NONE);
        due.is("another hour", stable.cancel(98, 11), Given.NONE);
        due.is("another rider", stable.cancel(0, 11), Given.NONE);
        for (int ring = 2; ring >= 0; ring--) {
            due.is("cancel(0, " + ring + ")", stable.cancel(0, ring), ring);
            due.is("cancel(0, " + ring + ") again", stable.cancel(0, ring), Given.NONE);
            due.is("cancel(99, " + (9 + ring) + ")", stable.cancel(99, 9 + ring), ring);
            due.is("bookings", stable.count(3), 2 * ring);
        }
        LessonHorses forty = Given.fortyBookings();
        due.is("the last one of 40", forty.cancel(9, 3), 0);
        due.is("the first one of 39", forty.cancel(0, 0), 0);
        due.is("riders of the first hour", forty.lesson(0, 0, 2), 2 + 4 + 8);
        due.is("riders of the last hour", forty.lesson(9, 0, 2), 1 + 2 + 4);
        due.is("riders between", forty.lesson(5, 0, 2), 15);
        due.is("bookings", forty.count(3), 38);
        due.is("a ridden one", forty.pass(1) + 10 * forty.cancel(0, 0), 3);
        due.is("the ridden hour is not the next one", forty.lesson(0, 0, 0), 3);
    }

    private static void promise7Hours() {
        due.sentence("`hours`: 1 to 99");
        LessonHorses stable = new LessonHorses();
        for (int hours : Given.NO_HOURS_TO_PASS) {
            due.is("pass(" + hours + ")", stable.pass(hours), Given.BAD_VALUE);
            due.is("ifPassed(" + hours + ", 0)", stable.ifPassed(hours, 0), Given.BAD_VALUE);
        }
        due.is("pass(1)", stable.pass(1), 0);
        due.is("time", stable.count(0), 1);
        due.is("pass(99)", stable.pass(99), 0);
        due.is("time", stable.count(0), 100);
    }

    private static void promise7Full() {
        due.sentence("FULL if the time would be beyond 9999.");
        LessonHorses stable = new LessonHorses();
        for (int passed = 0; passed < 100; passed++) {
            due.is("pass(99)", stable.pass(99), 0);
        }
        due.is("time", stable.count(0), 9900);
        stable.book(98, 0, 0);
        due.is("to 9999, in one call", stable.pass(99), 1);
        due.is("time", stable.count(0), 9999);
        due.is("beyond it", stable.pass(1), Given.FULL);
        stable.undo();
        due.is("to 9998", stable.pass(98), 0);
        due.is("by two", stable.pass(2), Given.FULL);
        due.is("by 99", stable.pass(99), Given.FULL);
        due.is("time", stable.count(0), 9998);
        due.is("by one", stable.pass(1), 1);
        due.is("time", stable.count(0), 9999);
        due.is("beyond it", stable.pass(1), Given.FULL);
        due.is("rides", stable.count(4), 1);
    }

    private static void promise7Returns() {
        due.sentence("Returns how many riders rode in them");
        LessonHorses stable = new LessonHorses();
        due.is("nobody", stable.pass(1), 0);
        for (int hours = 0; hours < 5; hours++) {
            stable.book(hours, 0, 0);
            stable.book(hours, 0, 1);
        }
        due.is("two in an hour", stable.pass(1), 2);
        due.is("four in two hours", stable.pass(2), 4);
        stable.setRider(1, 150, 9);
        due.is("who is left out does not ride", stable.pass(2), 2);
        due.is("rides so far", stable.count(4), 8);
        due.is("left out so far", stable.count(6), 2);
    }

    private static void promise14() {
        due.sentence("`what`: 0 for its strength, [..] 8 for how often it was shod so far");
        for (int horse : new int[] {0, 9}) {
            LessonHorses stable = Given.dayOne();
            stable.setHorse(horse, 150, 7);
            stable.setRider(3, 146, 5);
            stable.set(4, 1);
            for (int hours = 0; hours < 3; hours++) {
                stable.book(hours, 0, 3);
            }
            due.is("rides", stable.pass(3), 2);
            int[] facts = {150, 7, 1, 1, 2, 0, 2, 2, 1};
            for (int what = 0; what < 9; what++) {
                due.is("horse(" + horse + ", " + what + ")", stable.horse(horse, what), facts[what]);
            }
            for (int what : new int[] {-1, 9, 10, 256, 1 << 16, Given.LEAST, Given.LEAST + 8, Given.MOST}) {
                due.is("horse(" + horse + ", " + what + ")", stable.horse(horse, what), Given.BAD_VALUE);
            }
        }
    }

    private static void promise15() {
        due.sentence("`what`: 0 for the weight, [..] 9 for the horse of the latest lesson that the rider rode");
        for (int rider : new int[] {0, 11}) {
            LessonHorses stable = Given.freshHorse(9);
            stable.setRider(rider, Given.HEAVY, 3);
            stable.setHorse(9, 125, 4);
            stable.book(0, 1, rider);
            stable.pass(1);
            stable.setHorse(9, 125, 2);
            stable.book(0, 1, rider);
            stable.pass(1);
            stable.setHorse(9, 120, 9);
            stable.book(0, 1, rider);
            stable.book(98, 1, rider);
            stable.book(99, 2, rider);
            stable.pass(1);
            int[] facts = {Given.HEAVY, 3, 0, 3, 1, 2, 1, 1, 2, 9};
            for (int what = 0; what < 10; what++) {
                due.is("rider(" + rider + ", " + what + ")", stable.rider(rider, what), facts[what]);
            }
            for (int what : new int[] {-1, 10, 11, 256, 1 << 16, Given.LEAST, Given.LEAST + 9, Given.MOST}) {
                due.is("rider(" + rider + ", " + what + ")", stable.rider(rider, what), Given.BAD_VALUE);
            }
            due.is("count(4)", stable.count(4), 2);
            due.is("count(5)", stable.count(5), 1);
            due.is("count(6)", stable.count(6), 1);
            due.is("bookings of another rider", stable.rider(5, 8), 0);
        }
    }

    private static void promise15HorseOfTheLatestLesson() {
        due.sentence("9 for the horse of the latest lesson that the rider rode (NONE without one)");
        LessonHorses stable = Given.dayOne();
        for (int rider = 0; rider < 12; rider++) {
            due.is("rider(" + rider + ", 9)", stable.rider(rider, 9), Given.NONE);
        }
        stable.book(0, 0, 0);
        due.is("a booking is no lesson", stable.rider(0, 9), Given.NONE);
        stable.setRider(0, 150, 9);
        stable.pass(1);
        due.is("who was left out rode no lesson", stable.rider(0, 9), Given.NONE);
        stable.setRider(0, 40, 1);
        Given.ride(stable, 1);
        due.is("the horse 0", stable.rider(0, 9), 0);
        Given.ride(stable, 1);
        due.is("the latest one", stable.rider(0, 9), 1);
        stable.setRider(0, 150, 9);
        Given.ride(stable, 1);
        due.is("left out, it stays", stable.rider(0, 9), 1);
    }

    private static void promise16() {
        due.sentence("`what`: 0 for how many riders are booked, 1 for how many more there is room, 2 for the riders, as a set");
        int[] rooms = {4, 3, 2};
        for (int ring = 0; ring < 3; ring++) {
            LessonHorses stable = new LessonHorses();
            int set = 0;
            for (int booked = 0; booked <= rooms[ring]; booked++) {
                for (int hours : new int[] {0, 99}) {
                    due.is("booked", stable.lesson(hours, ring, 0), booked);
                    due.is("room", stable.lesson(hours, ring, 1), rooms[ring] - booked);
                    due.is("set", stable.lesson(hours, ring, 2), set);
                    due.is("another ring", stable.lesson(hours, (ring + 1) % 3, 2), 0);
                    stable.book(hours, ring, 11 - 2 * booked);
                }
                set += 1 << 11 - 2 * booked;
            }
            for (int what : new int[] {-1, 3, 256, 1 << 16, Given.LEAST, Given.LEAST + 2, Given.MOST}) {
                due.is("lesson(0, " + ring + ", " + what + ")", stable.lesson(0, ring, what), Given.BAD_VALUE);
            }
        }
        LessonHorses stable = new LessonHorses();
        stable.book(0, 0, 0);
        due.is("the set of the lowest rider", stable.lesson(0, 0, 2), 1);
        stable.book(0, 0, 11);
        due.is("the set of the lowest and the highest rider", stable.lesson(0, 0, 2), 2049);
    }

    /** So many falls, four in an hour, of riders who never can do anything, from horses that are never strained. */
    private static LessonHorses falls(int falls) {
        LessonHorses stable = Given.dayOne();
        stable.set(0, 9);
        stable.set(1, 99);
        stable.set(2, 0);
        for (int horse = 0; horse < 10; horse++) {
            stable.setHorse(horse, 150, 9);
        }
        for (int rider = 0; rider < 4; rider++) {
            stable.setRider(rider, 20, 0);
        }
        for (int fall = 0; fall < falls; fall++) {
            stable.book(fall / 4, 0, fall % 4);
        }
        stable.pass(14);
        due.is("falls", stable.count(5), falls);
        return stable;
    }

    private static void promise17TwentyAreKept() {
        due.sentence("Tells the latest falls, of which 20 are kept.");
        for (int falls : new int[] {19, 20, 21, 39, 40}) {
            LessonHorses stable = falls(falls);
            int kept = Math.min(falls, 20);
            for (int rank = 0; rank < kept; rank++) {
                int fall = falls - 1 - rank;
                due.is("time of the rank " + rank + " of " + falls, stable.fall(rank, 0), 10 + fall / 4);
                due.is("rider of the rank " + rank + " of " + falls, stable.fall(rank, 1), fall % 4);
                due.is("horse of the rank " + rank + " of " + falls, stable.fall(rank, 2) >= 0 ? 1 : 0, 1);
            }
            for (int rank : new int[] {kept, kept + 1, 20, 21, 40, 256, 1 << 16, Given.MOST}) {
                due.is("fall(" + rank + ", 0) of " + falls, stable.fall(rank, 0), Given.NONE);
                due.is("fall(" + rank + ", 1) of " + falls, stable.fall(rank, 1), Given.NONE);
                due.is("fall(" + rank + ", 2) of " + falls, stable.fall(rank, 2), Given.NONE);
            }
        }
    }

    private static void promise17WrapsAroundAndBack() {
        due.sentence("Tells the latest falls, of which 20 are kept.");
        LessonHorses stable = falls(20);
        stable.keep();
        for (int rider = 3; rider >= 0; rider--) {
            stable.book(0, 0, rider);
        }
        due.is("four more fall", stable.pass(1), 4);
        due.is("the oldest one that is kept", stable.fall(19, 0), 11);
        due.is("the latest one", stable.fall(0, 0), 24);
        due.is("undo()", stable.undo(), 3);
        due.is("the oldest one behind undo()", stable.fall(19, 0), 10);
        due.is("the latest one behind undo()", stable.fall(0, 0), 14);
        due.is("no more are there behind undo()", stable.fall(20, 0), Given.NONE);
        stable.pass(1);
        due.is("restore()", stable.restore(), 24);
        for (int rank = 0; rank < 20; rank++) {
            due.is("fall(" + rank + ", 0) behind restore()", stable.fall(rank, 0), 10 + (19 - rank) / 4);
            due.is("fall(" + rank + ", 1) behind restore()", stable.fall(rank, 1), (19 - rank) % 4);
        }
    }

    private static void promise17NotSoMany() {
        due.sentence("NONE if there are not so many.");
        for (int falls = 0; falls <= 3; falls++) {
            LessonHorses stable = falls(falls);
            for (int rank = 0; rank <= 5; rank++) {
                boolean isThere = rank < falls;
                due.is("fall(" + rank + ", 0) of " + falls, stable.fall(rank, 0), isThere ? 10 : Given.NONE);
                due.is("fall(" + rank + ", 1) of " + falls, stable.fall(rank, 1), isThere ? falls - 1 - rank : Given.NONE);
                due.is("fall(" + rank + ", 2) of " + falls, stable.fall(rank, 2), isThere ? falls - 1 - rank : Given.NONE);
            }
        }
    }

    private static void promise17WrongInputs() {
        due.sentence("Returns the number; BAD_VALUE (rank is negative, or what)");
        LessonHorses stable = falls(21);
        for (int rank : new int[] {-1, -20, -256, Given.LEAST, Given.LEAST + 1}) {
            for (int what = 0; what < 3; what++) {
                due.is("fall(" + rank + ", " + what + ")", stable.fall(rank, what), Given.BAD_VALUE);
            }
        }
        for (int what : new int[] {-1, 3, 256, 1 << 16, Given.LEAST, Given.LEAST + 2, Given.MOST}) {
            due.is("fall(0, " + what + ")", stable.fall(0, what), Given.BAD_VALUE);
            due.is("fall(19, " + what + ")", stable.fall(19, what), Given.BAD_VALUE);
            due.is("fall(20, " + what + ")", stable.fall(20, what), Given.BAD_VALUE);
        }
    }

    /** The horse 9 of which all those of the five reasons hold whose bit is set: 1 for lame, 2 for the farrier, .. */
    private static LessonHorses hindered(int reasons) {
        LessonHorses stable = Given.freshHorse(9);
        if ((reasons & 1) != 0) {
            stable.set(2, 50);
        }
        Given.ride(stable, 3);
        due.is("tiredness", stable.horse(9, 2), 3);
        due.is("shoes", stable.horse(9, 3), 3);
        if ((reasons & 2) != 0) {
            stable.set(4, 1);
        }
        stable.set(1, (reasons & 4) != 0 ? 3 : 4);
        stable.set(0, (reasons & 8) != 0 ? 3 : 4);
        stable.setRider(5, (reasons & 16) != 0 ? 126 : 125, 9);
        return stable;
    }

    private static void promise18FirstThatHolds() {
        due.sentence("Returns 0 if it can; the first that holds: 1 it is lame, 2 the farrier has it, 3 its shoes are worn, "
                + "4 it is too tired, 5 it is too weak");
        for (int reasons = 0; reasons < 32; reasons++) {
            int first = reasons == 0 ? 0 : 1 + Integer.numberOfTrailingZeros(reasons);
            LessonHorses stable = hindered(reasons);
            due.is("reason of " + reasons, stable.reason(9, 5), first);
            due.is("best of " + reasons, stable.best(5), first == 0 ? 9 : Given.NONE);
            due.is("takenIn is 0 of " + reasons, stable.takenIn(9, 5) == 0 ? 1 : 0, first == 0 ? 1 : 0);
            due.is("takenIn is NONE of " + reasons, stable.takenIn(9, 5) == Given.NONE ? 1 : 0, reasons / 16);
        }
    }

    private static void promise18IfItWasTheFirstOne() {
        due.sentence("in the next hour, if it was the first one that is taken.");
        LessonHorses stable = Given.freshHorse(9);
        stable.book(0, 0, 1);
        due.is("reason though another is booked", stable.reason(9, 0), 0);
        due.is("best though another is booked", stable.best(0), 9);
        due.is("takenIn though another is booked", stable.takenIn(9, 0), 0);
    }

    private static void promise19() {
        due.sentence("Returns the horse; UNKNOWN; NONE if none can be taken.");
        LessonHorses stable = new LessonHorses();
        stable.setRider(0, 125, 0);
        due.is("only the horse 9 can be taken", stable.best(0), 9);
        stable.setRider(0, 126, 0);
        due.is("none can be taken", stable.best(0), Given.NONE);
        stable.setHorse(0, 126, 9);
        due.is("only the horse 0 can be taken", stable.best(0), 0);
        stable.setRider(11, 150, 9);
        due.is("none for the last rider", stable.best(11), Given.NONE);
        stable.setHorse(4, 150, 9);
        due.is("one for the last rider", stable.best(11), 4);
    }

    private static void promise20InTheNextHour() {
        due.sentence("Returns how many, 0 if it can be taken in the next hour");
        LessonHorses stable = Given.freshHorse(9);
        due.is("rested", stable.takenIn(9, 0), 0);
        Given.ride(stable, 3);
        stable.set(0, 4);
        due.is("tired 3 of 4", stable.takenIn(9, 0), 0);
        for (int limit = 3; limit >= 1; limit--) {
            stable.set(0, limit);
            due.is("tired 3 of " + limit, stable.takenIn(9, 0), 4 - limit);
        }
    }

    private static void promise20HowMany() {
        due.sentence("Tells in how many hours a horse can be taken for a rider, if no lessons are given until then");
        LessonHorses tired = Given.freshHorse(9);
        Given.ride(tired, 9);
        tired.set(0, 1);
        due.is("an hour and a night", tired.takenIn(9, 0), 1);
        LessonHorses booked = Given.freshHorse(9);
        Given.ride(booked, 3);
        booked.set(0, 3);
        for (int hours = 0; hours < 9; hours++) {
            booked.book(hours, 0, 1);
        }
        due.is("bookings do not tire it", booked.takenIn(9, 0), 1);
        booked.set(0, 1);
        due.is("bookings do not tire it later", booked.takenIn(9, 0), 3);
        LessonHorses farriers = Given.heavyRiders(9);
        farriers.set(1, 1);
        Given.ride(farriers, 1);
        farriers.set(1, 99);
        farriers.set(0, 1);
        farriers.pass(6);
        farriers.book(0, 0, 4);
        farriers.book(2, 0, 5);
        due.is("the shoes of 9 alone are worn", farriers.horse(9, 3), 1);
        farriers.set(1, 1);
        due.is("lessons until then would wear the shoes of others", farriers.takenIn(9, 0), 14);
        farriers.pass(3);
        due.is("which are worn as long", farriers.horse(0, 3), 1);
        due.is("and are shod ahead of it", farriers.takenIn(9, 0), 13);
        LessonHorses shoes = Given.heavyRiders(9);
        shoes.set(1, 1);
        Given.ride(shoes, 1);
        due.is("until the farrier had it, at 30", shoes.takenIn(9, 0), 20);
        shoes.set(4, 1);
        due.is("until the farrier had it, at 11", shoes.takenIn(9, 0), 1);
    }

    private static void promise20LongestWaits() {
        due.sentence("Returns how many [..] NONE if not within 200.");
        for (int hours : new int[] {1, 2, 98, 99}) {
            LessonHorses lame = Given.freshHorse(9);
            lame.set(2, 50);
            lame.set(3, hours);
            Given.ride(lame, 3);
            due.is("lame for " + hours, lame.takenIn(9, 0), hours);
        }
        LessonHorses shoes = Given.freshHorse(9);
        shoes.set(0, 9);
        for (int horse = 0; horse < 10; horse++) {
            shoes.setHorse(horse, 150, 0);
            shoes.setRider(horse, 20, 9);
            for (int hour = 0; hour < 2; hour++) {
                shoes.book(hour, horse % 3, horse);
            }
        }
        // Ten horses are for nine riders in an hour, so the other rider rides later.
        shoes.pass(2);
        shoes.book(0, 0, 9);
        shoes.book(1, 0, 9);
        shoes.pass(2);
        shoes.set(1, 1);
        int most = 0;
        for (int horse = 0; horse < 10; horse++) {
            due.holds("the shoes of " + horse + " are worn", shoes.horse(horse, 3) > 0);
            most = Math.max(most, shoes.takenIn(horse, 0));
        }
        due.is("the last of ten to be shod, in the hour 99", most, 86);
    }

    private static void promise20NotAtAll() {
        due.sentence("NONE if not within 200.");
        LessonHorses stable = new LessonHorses();
        stable.setRider(0, 150, 9);
        for (int horse = 0; horse < 10; horse++) {
            due.is("takenIn(" + horse + ", 0)", stable.takenIn(horse, 0), Given.NONE);
            stable.setHorse(horse, 149, 0);
            due.is("too weak by 1", stable.takenIn(horse, 0), Given.NONE);
            stable.setHorse(horse, 150, 0);
            due.is("strong enough", stable.takenIn(horse, 0), 0);
        }
    }

    private static void promise20BoundOfTheTime() {
        due.sentence("if no lessons are given until then (the bound of the time does not matter)");
        LessonHorses stable = new LessonHorses();
        for (int passed = 0; passed < 100; passed++) {
            stable.pass(99);
        }
        stable.set(2, 50);
        stable.set(3, 99);
        stable.set(4, 7);
        stable.setRider(0, Given.HEAVY, 9);
        stable.pass(96);
        due.is("rides", Given.ride(stable, 3), 3);
        due.is("time", stable.count(0), 9999);
        due.is("takenIn(9, 0)", stable.takenIn(9, 0), 99);
        due.is("for another rider", stable.takenIn(9, 1), 99);
        due.is("another horse", stable.takenIn(8, 1), 0);
        due.is("time", stable.count(0), 9999);
    }

    private static void promise21Hours() {
        due.sentence("Tells what the next hours would bring, if nothing else is done");
        LessonHorses stable = new LessonHorses();
        stable.book(0, 0, 0);
        stable.book(98, 0, 0);
        stable.book(98, 0, 1);
        stable.book(99, 0, 0);
        due.is("ifPassed(1, 0)", stable.ifPassed(1, 0), 1);
        due.is("ifPassed(98, 0)", stable.ifPassed(98, 0), 1);
        due.is("ifPassed(99, 0)", stable.ifPassed(99, 0), 3);
        due.is("pass(1)", stable.pass(1), 1);
        due.is("ifPassed(99, 0) an hour later", stable.ifPassed(99, 0), 3);
        due.is("pass(98)", stable.pass(98), 2);
        due.is("nobody rides any more but one", stable.ifPassed(99, 0), 1);
        due.is("as pass says", stable.pass(99), 1);
    }

    private static void promise21What() {
        due.sentence("0 for how many riders would ride, 1 for how many would be left out, 2 for falls, 3 for horses that "
                + "would be lame then");
        LessonHorses stable = Given.freshHorse(0);
        stable.set(2, 50);
        stable.set(3, 4);
        for (int hours = 0; hours < 5; hours++) {
            stable.book(hours, 0, 0);
        }
        int[][] wanted = {{1, 0, 1, 0}, {2, 0, 2, 0}, {3, 0, 3, 1}, {3, 1, 3, 1}, {3, 2, 3, 1}, {3, 2, 3, 1}, {3, 2, 3, 0}};
        for (int hours = 1; hours <= wanted.length; hours++) {
            for (int what = 0; what < 4; what++) {
                due.is("ifPassed(" + hours + ", " + what + ")", stable.ifPassed(hours, what), wanted[hours - 1][what]);
            }
        }
        for (int what : new int[] {-1, 4, 256, 1 << 16, Given.LEAST, Given.LEAST + 3, Given.MOST}) {
            due.is("ifPassed(1, " + what + ")", stable.ifPassed(1, what), Given.BAD_VALUE);
        }
        stable.pass(4);
        due.is("only what would come is counted: rides", stable.ifPassed(1, 0), 0);
        due.is("only what would come is counted: left out", stable.ifPassed(1, 1), 1);
        due.is("only what would come is counted: falls", stable.ifPassed(1, 2), 0);
        due.is("but lame is who is lame then", stable.ifPassed(1, 3), 1);
    }

    private static void promise21BoundOfTheTime() {
        due.sentence("if nothing else is done (the bound of the time does not matter).");
        LessonHorses stable = Given.atTheEnd();
        stable.book(0, 0, 0);
        stable.book(98, 0, 0);
        stable.book(99, 0, 0);
        due.is("ifPassed(1, 0)", stable.ifPassed(1, 0), 1);
        due.is("ifPassed(99, 0)", stable.ifPassed(99, 0), 2);
        due.is("pass(1)", stable.pass(1), Given.FULL);
        due.is("count(0)", stable.count(0), 9999);
    }

    private static void promise22Within100Hours() {
        due.sentence("Finds the time, within the next 100 hours, for which most riders are booked");
        for (int hours : new int[] {0, 1, 50, 98, 99}) {
            LessonHorses stable = new LessonHorses();
            stable.book(hours, 2, 11);
            due.is("busiest() with one in " + hours, stable.busiest(), hours);
        }
        LessonHorses stable = new LessonHorses();
        int[] rings = {0, 0, 0, 0, 1, 1, 1, 2, 2};
        for (int rider = 0; rider < 9; rider++) {
            stable.book(99, rings[rider], rider);
            if (rider < 8) {
                stable.book(0, rings[rider], rider);
            }
        }
        due.is("nine in the last hour, eight in the first", stable.busiest(), 99);
        stable.cancel(99, 8);
        due.is("eight in both", stable.busiest(), 0);
        stable.cancel(0, 0);
        due.is("eight in the last hour, seven in the first", stable.busiest(), 99);
        stable.pass(99);
        due.is("99 hours later", stable.busiest(), 0);
    }

    private static void promise22OfSeveralTheFirst() {
        due.sentence("of several the first one.");
        LessonHorses stable = new LessonHorses();
        for (int hours = 99; hours >= 60; hours--) {
            stable.book(hours, 0, 0);
            due.is("busiest() of one in each hour from " + hours, stable.busiest(), hours);
        }
        LessonHorses two = new LessonHorses();
        two.book(7, 0, 0);
        two.book(3, 0, 0);
        two.book(5, 0, 0);
        two.book(5, 1, 1);
        two.book(7, 2, 1);
        due.is("two in 5 and in 7, one in 3", two.busiest(), 5);
    }

    private static void promise22Nobody() {
        due.sentence("NONE if nobody is booked.");
        LessonHorses stable = new LessonHorses();
        due.is("at first", stable.busiest(), Given.NONE);
        stable.book(0, 0, 0);
        due.is("somebody is booked", stable.busiest(), 0);
        stable.cancel(0, 0);
        due.is("behind cancel", stable.busiest(), Given.NONE);
        stable.book(0, 0, 0);
        stable.pass(1);
        due.is("behind the lesson", stable.busiest(), Given.NONE);
    }

    private static void promise23What() {
        due.sentence("Returns the number; BAD_VALUE.");
        LessonHorses stable = new LessonHorses();
        int[] counts = {0, 0, 0, 0, 0, 0, 0, 0, 0, 0, 1, Given.NONE, 3, 12, 5, 20, 3, 0, 0};
        for (int what = 0; what < 19; what++) {
            due.is("count(" + what + ")", stable.count(what), counts[what]);
        }
        for (int what : new int[] {-1, 19, 20, -18, 256, 1 << 16, Given.LEAST, Given.LEAST + 18, Given.MOST}) {
            due.is("count(" + what + ")", stable.count(what), Given.BAD_VALUE);
        }
    }

    private static void promise23Farrier() {
        due.sentence("10 for whether the farrier is there in the next hour (1, otherwise 0), 11 for the horse that he has "
                + "then (NONE without one)");
        LessonHorses stable = new LessonHorses();
        due.is("there, without a horse: count(10)", stable.count(10), 1);
        due.is("there, without a horse: count(11)", stable.count(11), Given.NONE);
        Given.ride(stable, 1);
        due.is("there, with the horse 0", stable.count(11), 0);
        stable.set(4, 9);
        stable.pass(8);
        Given.ride(stable, 1);
        due.is("the day 1: count(10)", stable.count(10), 0);
        due.is("the day 1: count(11)", stable.count(11), Given.NONE);
        due.is("though shoes are worn", stable.horse(0, 3), 1);
        stable.pass(79);
        due.is("the last hour of the day 8: count(10)", stable.count(10), 0);
        due.is("the last hour of the day 8: count(11)", stable.count(11), Given.NONE);
        stable.pass(1);
        due.is("the first hour of the day 9: count(10)", stable.count(10), 1);
        due.is("the first hour of the day 9: count(11)", stable.count(11), 0);
    }

    private static void promise23AtTheirMost() {
        due.sentence("3 for bookings that wait, [..] 17 for the states in the history, 18 for the length of the text");
        LessonHorses stable = Given.fortyBookings();
        for (int index = 0; index < 61; index++) {
            stable.type('x');
        }
        due.is("bookings", stable.count(3), 40);
        due.is("states", stable.count(17), 4);
        due.is("characters", stable.count(18), 60);
        stable.pass(9);
        due.is("rides", stable.count(4), 36);
        due.is("bookings", stable.count(3), 4);
        int rides = 0;
        int tired = 0;
        int shod = 0;
        for (int horse = 0; horse < 10; horse++) {
            rides += stable.horse(horse, 6);
            tired += stable.horse(horse, 2);
            shod += stable.horse(horse, 8);
        }
        due.is("rides of all horses", rides, 36);
        due.is("tiredness of all horses", stable.count(9), tired);
        due.is("shod of all horses", stable.count(8), shod);
        due.is("the farrier had one in each hour but the first", shod, 8);
    }
}
