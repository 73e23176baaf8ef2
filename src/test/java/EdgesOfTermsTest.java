/** The edges that the document's "Terms" name, sentence by sentence: time, horses, riders, lessons. */
public final class EdgesOfTermsTest {
    private static final Due due = new Due("EdgesOfTermsTest");

    public static void main(String[] args) {
        timeAtFirst();
        hoursOfADay();
        nightBehindTheHour9();
        tenHorses();
        rangesOfHorses();
        takenIfNotLame();
        takenIfTheFarrierDoesNotHaveIt();
        takenIfShoesAreWornForFewerHours();
        takenIfTirednessIsLess();
        takenIfNotTakenInThisHour();
        takenIfStrongEnough();
        twelveRiders();
        rangesOfRiders();
        whatARiderCanDo();
        bestIsGentle();
        bestIsLeastTired();
        bestIsWeakest();
        bestIsLowest();
        roomOfTheRings();
        fortyBookingsWait();
        orderOfTheBookings();
        leftOutIfNoneCanBeTaken();
        fallIfTheTemperIsAbove();
        fearIsAtMost9();
        fearIsAtLeast0();
        skillGrowsWithEachThirdInARow();
        skillIsAtMost9();
        strainIfTogetherAbove();
        lameWithTheThirdStrain();
        due.finish();
    }

    private static void timeAtFirst() {
        due.sentence("The time is a number of hours, 0 at first.");
        LessonHorses stable = new LessonHorses();
        due.is("count(0)", stable.count(0), 0);
        due.is("keep()", stable.keep(), 0);
        stable.pass(1);
        due.is("count(0) an hour later", stable.count(0), 1);
    }

    private static void isTime(LessonHorses stable, int time, int day, int hour) {
        due.is("count(0)", stable.count(0), time);
        due.is("count(1) at " + time, stable.count(1), day);
        due.is("count(2) at " + time, stable.count(2), hour);
    }

    private static void hoursOfADay() {
        due.sentence("A day has 10 hours: the time t is the hour t % 10 of the day t / 10, rounded down.");
        LessonHorses stable = new LessonHorses();
        isTime(stable, 0, 0, 0);
        stable.pass(9);
        isTime(stable, 9, 0, 9);
        stable.pass(1);
        isTime(stable, 10, 1, 0);
        stable.pass(89);
        isTime(stable, 99, 9, 9);
        stable.pass(1);
        isTime(stable, 100, 10, 0);
        isTime(Given.atTheEnd(), 9999, 999, 9);
    }

    private static void nightBehindTheHour9() {
        due.sentence("Behind the hour 9 there is a night.");
        LessonHorses stable = Given.freshHorse(9);
        for (int hour = 0; hour < 8; hour++) {
            Given.ride(stable, 1);
            due.is("tiredness behind the hour " + hour, stable.horse(9, 2), hour + 1);
        }
        stable.pass(1);
        due.is("tiredness behind the hour 8", stable.horse(9, 2), 7);
        stable.pass(1);
        due.is("tiredness behind the hour 9", stable.horse(9, 2), 0);
        Given.ride(stable, 1);
        due.is("tiredness behind the hour 0 of the next day", stable.horse(9, 2), 1);
    }

    private static void tenHorses() {
        due.sentence("There are 10 horses, 0 to 9.");
        LessonHorses stable = new LessonHorses();
        for (int horse : Given.NO_HORSES) {
            due.is("setHorse(" + horse + ", 99, 9)", stable.setHorse(horse, 99, 9), Given.UNKNOWN);
            due.is("horse(" + horse + ", 0)", stable.horse(horse, 0), Given.UNKNOWN);
            due.is("reason(" + horse + ", 0)", stable.reason(horse, 0), Given.UNKNOWN);
            due.is("takenIn(" + horse + ", 0)", stable.takenIn(horse, 0), Given.UNKNOWN);
        }
        for (int horse = 0; horse < 10; horse++) {
            due.is("horse(" + horse + ", 0)", stable.horse(horse, 0), 80 + 5 * horse);
            due.is("reason(" + horse + ", 0)", stable.reason(horse, 0), 0);
            due.is("takenIn(" + horse + ", 0)", stable.takenIn(horse, 0), 0);
            due.is("setHorse(" + horse + ", 150, 9)", stable.setHorse(horse, 150, 9), 80 + 5 * horse);
        }
    }

    private static void rangesOfHorses() {
        due.sentence("A horse has a strength (20 to 150; 80 plus 5 times its number at first), a temper (0 to 9; "
                + "its number modulo 4 at first)");
        LessonHorses stable = new LessonHorses();
        for (int horse = 0; horse < 10; horse++) {
            due.is("strength of " + horse, stable.horse(horse, 0), 80 + 5 * horse);
            due.is("temper of " + horse, stable.horse(horse, 1), horse % 4);
        }
        for (int horse : new int[] {0, 9}) {
            for (int strength : Given.NO_WEIGHTS) {
                due.is("setHorse to " + strength, stable.setHorse(horse, strength, 2), Given.BAD_VALUE);
            }
            for (int temper : Given.NO_GRADES) {
                due.is("setHorse to temper " + temper, stable.setHorse(horse, 99, temper), Given.BAD_VALUE);
            }
            due.is("the least strength", stable.setHorse(horse, 20, 9), 80 + 5 * horse);
            due.is("it is kept", stable.horse(horse, 0), 20);
            due.is("the most temper is kept", stable.horse(horse, 1), 9);
            due.is("the most strength", stable.setHorse(horse, 150, 0), 20);
            due.is("it is kept", stable.horse(horse, 0), 150);
            due.is("the least temper is kept", stable.horse(horse, 1), 0);
        }
        due.sentence("its tiredness (0 at first), hours for which its shoes were worn (0 at first), strains (0 at first), "
                + "and hours for which it is lame still (0 at first).");
        for (int cell = 0; cell < 40; cell++) {
            int what = 2 + cell % 4;
            due.is("horse(" + cell / 4 + ", " + what + ")", new LessonHorses().horse(cell / 4, what), 0);
        }
    }

    /** The rider 0, who has the horse 9 or none, is asked for and then rides, or is left out. */
    private static void canBeTaken(String when, LessonHorses stable, int reason) {
        due.is("reason(9, 0) " + when, stable.reason(9, 0), reason);
        due.is("best(0) " + when, stable.best(0), reason == 0 ? 9 : Given.NONE);
        due.holds("takenIn(9, 0) is 0 " + when + ": " + (reason == 0), stable.takenIn(9, 0) == 0 == (reason == 0));
        int leftOut = stable.rider(0, 7);
        due.is("a ride " + when, Given.ride(stable, 1), reason == 0 ? 1 : 0);
        due.is("left out " + when, stable.rider(0, 7), leftOut + (reason == 0 ? 0 : 1));
    }

    private static void takenIfNotLame() {
        due.sentence("A horse can be taken for a rider in an hour if it is not lame");
        LessonHorses stable = Given.freshHorse(9);
        stable.set(2, 50);
        stable.set(3, 2);
        due.is("rides", Given.ride(stable, 3), 3);
        due.is("lame", stable.horse(9, 5), 2);
        canBeTaken("when it is lame for two hours", stable, 1);
        due.is("lame", stable.horse(9, 5), 1);
        canBeTaken("when it is lame for an hour", stable, 1);
        due.is("lame", stable.horse(9, 5), 0);
        canBeTaken("when it is lame no more", stable, 0);
    }

    private static void takenIfTheFarrierDoesNotHaveIt() {
        due.sentence("the farrier does not have it");
        LessonHorses stable = Given.heavyRiders(9);
        Given.ride(stable, 1);
        stable.pass(17);
        canBeTaken("in the hour 28", stable, 0);
        canBeTaken("in the hour 29, ahead of the farrier's day", stable, 0);
        due.is("time", stable.count(0), 30);
        canBeTaken("in the hour 30, the farrier's", stable, 2);
        canBeTaken("in the hour 31, with new shoes", stable, 0);
        canBeTaken("in the hour 32, with shoes worn again", stable, 2);
    }

    private static void takenIfShoesAreWornForFewerHours() {
        due.sentence("its shoes were worn for fewer hours than the setting 1 tells");
        LessonHorses stable = Given.freshHorse(9);
        Given.ride(stable, 3);
        stable.set(1, 3);
        canBeTaken("worn for 3 of 3", stable, 3);
        stable.set(1, 2);
        canBeTaken("worn for 3 of 2", stable, 3);
        stable.set(1, 4);
        canBeTaken("worn for 3 of 4", stable, 0);
        canBeTaken("worn for 4 of 4", stable, 3);
    }

    private static void takenIfTirednessIsLess() {
        due.sentence("its tiredness is less than the setting 0 tells");
        LessonHorses stable = Given.freshHorse(9);
        Given.ride(stable, 3);
        stable.set(0, 2);
        canBeTaken("tired 3 of 2", stable, 4);
        canBeTaken("tired 2 of 2", stable, 4);
        canBeTaken("tired 1 of 2", stable, 0);
        canBeTaken("tired 2 of 2 again", stable, 4);
        stable.set(0, 1);
        canBeTaken("tired 1 of 1", stable, 4);
        canBeTaken("tired 0 of 1", stable, 0);
    }

    private static void takenIfNotTakenInThisHour() {
        due.sentence("it was not taken in this hour yet");
        LessonHorses stable = Given.freshHorse(9);
        stable.book(0, 0, 0);
        stable.book(0, 0, 1);
        stable.book(1, 0, 1);
        due.is("pass(1)", stable.pass(1), 1);
        due.is("the first one rode", stable.rider(0, 5), 1);
        due.is("the second one was left out", stable.rider(1, 7), 1);
        due.is("pass(1), in which it is the first one", stable.pass(1), 1);
        due.is("now the second one rode", stable.rider(1, 5), 1);
        due.is("taken", stable.horse(9, 6), 2);
    }

    private static void takenIfStrongEnough() {
        due.sentence("its strength is at least the rider's weight.");
        LessonHorses stable = Given.freshHorse(9);
        stable.setRider(0, 124, 9);
        canBeTaken("for one who weighs 1 less", stable, 0);
        stable.setRider(0, 125, 9);
        canBeTaken("for one who weighs as much", stable, 0);
        stable.setRider(0, 126, 9);
        due.is("takenIn for one who weighs 1 more", stable.takenIn(9, 0), Given.NONE);
        canBeTaken("for one who weighs 1 more", stable, 5);
        stable.setHorse(9, 150, 1);
        stable.setRider(0, 150, 9);
        canBeTaken("the strongest for the heaviest", stable, 0);
        stable.setHorse(9, 149, 1);
        canBeTaken("the strongest but one for the heaviest", stable, 5);
    }

    private static void twelveRiders() {
        due.sentence("There are 12 riders, 0 to 11.");
        LessonHorses stable = new LessonHorses();
        for (int rider : Given.NO_RIDERS) {
            due.is("setRider(" + rider + ", 99, 9)", stable.setRider(rider, 99, 9), Given.UNKNOWN);
            due.is("book(0, 0, " + rider + ")", stable.book(0, 0, rider), Given.UNKNOWN);
            due.is("cancel(0, " + rider + ")", stable.cancel(0, rider), Given.UNKNOWN);
            due.is("rider(" + rider + ", 0)", stable.rider(rider, 0), Given.UNKNOWN);
            due.is("reason(0, " + rider + ")", stable.reason(0, rider), Given.UNKNOWN);
            due.is("best(" + rider + ")", stable.best(rider), Given.UNKNOWN);
            due.is("takenIn(0, " + rider + ")", stable.takenIn(0, rider), Given.UNKNOWN);
        }
        for (int rider = 0; rider < 12; rider++) {
            due.is("rider(" + rider + ", 0)", stable.rider(rider, 0), 40 + 6 * rider);
            due.is("book(" + rider + ", 0, " + rider + ")", stable.book(rider, 0, rider), 1);
            due.is("reason(9, " + rider + ")", stable.reason(9, rider), 0);
            due.holds("best(" + rider + ") is a horse", stable.best(rider) >= 0);
            due.is("takenIn(9, " + rider + ")", stable.takenIn(9, rider), 0);
            due.is("cancel(" + rider + ", " + rider + ")", stable.cancel(rider, rider), 0);
            due.is("setRider(" + rider + ", 150, 9)", stable.setRider(rider, 150, 9), 40 + 6 * rider);
        }
    }

    private static void rangesOfRiders() {
        due.sentence("A rider has a weight (20 to 150; 40 plus 6 times the number at first), a skill (0 to 9; 1 at first), "
                + "and fear (0 to 9; 0 at first).");
        LessonHorses stable = new LessonHorses();
        for (int rider = 0; rider < 12; rider++) {
            due.is("weight of " + rider, stable.rider(rider, 0), 40 + 6 * rider);
            due.is("skill of " + rider, stable.rider(rider, 1), 1);
            due.is("fear of " + rider, stable.rider(rider, 2), 0);
        }
        for (int rider : new int[] {0, 11}) {
            for (int weight : Given.NO_WEIGHTS) {
                due.is("setRider to " + weight, stable.setRider(rider, weight, 2), Given.BAD_VALUE);
            }
            for (int skill : Given.NO_GRADES) {
                due.is("setRider to skill " + skill, stable.setRider(rider, 99, skill), Given.BAD_VALUE);
            }
            due.is("the least weight", stable.setRider(rider, 20, 9), 40 + 6 * rider);
            due.is("it is kept", stable.rider(rider, 0), 20);
            due.is("the most skill is kept", stable.rider(rider, 1), 9);
            due.is("the most weight", stable.setRider(rider, 150, 0), 20);
            due.is("it is kept", stable.rider(rider, 0), 150);
            due.is("the least skill is kept", stable.rider(rider, 1), 0);
        }
    }

    private static void whatARiderCanDo() {
        due.sentence("What a rider can do is the skill less the fear, but at least 0.");
        LessonHorses stable = Given.freshHorse(2);
        stable.setHorse(9, 125, 9);
        int[] canDo = {2, 1, 0, 0, 0};
        for (int fear = 0; fear < canDo.length; fear++) {
            due.is("fear", stable.rider(0, 2), fear);
            due.is("rider(0, 3) with skill 2 and fear " + fear, stable.rider(0, 3), canDo[fear]);
            Given.ride(stable, 1);
        }
        stable.setRider(0, Given.HEAVY, 0);
        due.is("rider(0, 3) with skill 0", stable.rider(0, 3), 0);
        stable.setRider(0, Given.HEAVY, 9);
        due.is("rider(0, 3) with skill 9", stable.rider(0, 3), 9);
    }

    /** The day 1; the horses 7, 8 and 9, all of one strength and temper, are the only ones for the rider 0. */
    private static LessonHorses threeHorses(int skill) {
        LessonHorses stable = Given.dayOne();
        for (int horse = 7; horse < 10; horse++) {
            stable.setHorse(horse, 130, 5);
        }
        stable.setRider(0, 126, skill);
        return stable;
    }

    private static void bestIsGentle() {
        due.sentence("first one whose temper is at most what the rider can do, ahead of all others");
        LessonHorses stable = threeHorses(5);
        stable.setHorse(7, 130, 6);
        due.is("temper 6 for skill 5: the one behind it", stable.best(0), 8);
        stable.setHorse(8, 131, 5);
        stable.setHorse(9, 131, 6);
        due.is("the gentle one is stronger", stable.best(0), 8);
        Given.ride(stable, 2);
        due.is("the gentle one was taken", stable.rider(0, 9), 8);
        due.is("the gentle one is stronger and tired", stable.best(0), 8);
        stable.setHorse(7, 130, 5);
        due.is("temper 5 for skill 5: gentle too, and rested", stable.best(0), 7);
        stable.setHorse(7, 130, 0);
        stable.setHorse(8, 130, 9);
        stable.setHorse(9, 130, 9);
        stable.set(0, 9);
        stable.setRider(0, 126, 0);
        due.is("temper 0 for skill 0", stable.best(0), 7);
        stable.setHorse(7, 130, 1);
        due.is("temper 1 for skill 0: the others are as good", stable.best(0), 7);
        stable.setHorse(9, 129, 9);
        due.is("none is gentle: the weaker one, though wilder", stable.best(0), 9);
    }

    private static void bestIsLeastTired() {
        due.sentence("of these the one with the least tiredness");
        for (int skill : new int[] {5, 4}) {
            LessonHorses stable = threeHorses(skill);
            stable.setHorse(7, 126, 5);
            Given.ride(stable, 1);
            due.is("tiredness", stable.horse(7, 2), 1);
            stable.setRider(0, 126, skill);
            due.is("the rested one though stronger and behind", stable.best(0), 8);
            stable.setHorse(9, 127, 5);
            due.is("of two rested ones the weaker", stable.best(0), 9);
            stable.pass(1);
            due.is("all are rested", stable.best(0), 7);
        }
    }

    private static void bestIsWeakest() {
        due.sentence("of several the one with the least strength");
        for (int skill : new int[] {5, 4}) {
            LessonHorses stable = threeHorses(skill);
            stable.setHorse(9, 129, 5);
            due.is("weaker by 1 and behind", stable.best(0), 9);
            stable.setHorse(8, 128, 5);
            due.is("weaker by 2", stable.best(0), 8);
            stable.setHorse(7, 127, 5);
            due.is("weaker by 3", stable.best(0), 7);
            stable.setHorse(7, 131, 5);
            due.is("stronger by 1", stable.best(0), 8);
            stable.setHorse(8, 125, 5);
            due.is("too weak", stable.best(0), 9);
        }
    }

    private static void bestIsLowest() {
        due.sentence("of these the lowest.");
        for (int skill : new int[] {5, 4}) {
            LessonHorses stable = threeHorses(skill);
            due.is("all three are equal", stable.best(0), 7);
            stable.setHorse(7, 131, 5);
            due.is("two are equal", stable.best(0), 8);
        }
        LessonHorses stable = Given.dayOne();
        for (int horse = 0; horse < 10; horse++) {
            stable.setHorse(horse, 150, 0);
        }
        due.is("all ten are equal", stable.best(0), 0);
    }

    private static void roomOfTheRings() {
        due.sentence("There are 3 rings, with room for 4, 3 and 2 riders.");
        LessonHorses stable = new LessonHorses();
        for (int ring : Given.NO_RINGS) {
            due.is("book(0, " + ring + ", 0)", stable.book(0, ring, 0), Given.UNKNOWN);
            due.is("lesson(0, " + ring + ", 0)", stable.lesson(0, ring, 0), Given.UNKNOWN);
        }
        int[] rooms = {4, 3, 2};
        for (int hours : new int[] {0, 99}) {
            int rider = 0;
            for (int ring = 0; ring < 3; ring++) {
                for (int booked = 0; booked < rooms[ring]; booked++) {
                    due.is("room in " + ring, stable.lesson(hours, ring, 1), rooms[ring] - booked);
                    due.is("book into " + ring, stable.book(hours, ring, rider), booked + 1);
                    rider++;
                }
                due.is("no room in " + ring, stable.lesson(hours, ring, 1), 0);
                due.is("book into the full ring " + ring, stable.book(hours, ring, 11), Given.FULL);
                due.is("booked in " + ring, stable.lesson(hours, ring, 0), rooms[ring]);
            }
        }
        due.is("nine ride at once", stable.pass(1), 9);
    }

    private static void fortyBookingsWait() {
        due.sentence("at most 40 bookings wait.");
        LessonHorses stable = Given.fortyBookings();
        due.is("count(3)", stable.count(3), 40);
        due.is("undo()", stable.undo(), 3);
        due.is("one wait less", stable.count(3), 39);
        due.is("the booking 40", stable.book(50, 2, 5), 1);
        due.is("the booking 41", stable.book(51, 2, 5), Given.FULL);
        due.is("the booking 41 for an hour with others", stable.book(0, 2, 5), Given.FULL);
        due.is("count(3)", stable.count(3), 40);
        Given.type(stable, "+51/2:5");
        due.is("the booking 41 of a plan", stable.bookPlan(), Given.FULL);
        due.is("an hour passes", stable.pass(1), 4);
        due.is("four wait less", stable.count(3), 36);
        for (int rider = 0; rider < 4; rider++) {
            due.is("booking " + (37 + rider), stable.book(99, 0, rider), rider + 1);
        }
        due.is("the booking 41 again", stable.book(98, 0, 0), Given.FULL);
    }

    private static void orderOfTheBookings() {
        due.sentence("In an hour all who are booked for it ride, by the order in which they were booked");
        LessonHorses stable = new LessonHorses();
        int[] riders = {11, 3, 7, 0, 9, 1, 10, 2, 5};
        int[] rings = {2, 0, 1, 0, 2, 1, 0, 1, 0};
        stable.book(9, 2, riders[0]);
        stable.book(9, 0, 4);
        stable.book(9, 0, riders[1]);
        stable.pass(9);
        due.is("cancel(0, 4)", stable.cancel(0, 4), 0);
        for (int place = 2; place < 9; place++) {
            stable.book(1, 0, 4);
            due.holds("booked", stable.book(0, rings[place], riders[place]) > 0);
        }
        for (int horse = 0; horse < 10; horse++) {
            stable.setHorse(horse, 150, 0);
        }
        due.is("pass(1)", stable.pass(1), 9);
        for (int place = 0; place < 9; place++) {
            due.is("horse of " + riders[place], stable.rider(riders[place], 9), place);
        }
        due.is("the last horse was not taken", stable.horse(9, 6), 0);
    }

    private static void leftOutIfNoneCanBeTaken() {
        due.sentence("each one takes the best horse, or, if none can be taken, is left out.");
        LessonHorses stable = Given.freshHorse(9);
        stable.setHorse(8, 121, 0);
        stable.setRider(2, Given.HEAVY, 9);
        for (int rider : new int[] {2, 1, 0, 3}) {
            due.holds("booked", stable.book(0, 0, rider) > 0);
        }
        due.is("pass(1)", stable.pass(1), 3);
        due.is("the weakest horse for the first one", stable.rider(2, 9), 8);
        due.is("the other one for the second one", stable.rider(1, 9), 9);
        due.is("none for the third one", stable.rider(0, 9), Given.NONE);
        due.is("who was left out", stable.rider(0, 7), 1);
        due.is("and did not ride", stable.rider(0, 5), 0);
        due.is("and waits no more", stable.rider(0, 8), 0);
        due.is("a light one behind rides", stable.rider(3, 5), 1);
        due.is("left out", stable.count(6), 1);
    }

    private static void fallIfTheTemperIsAbove() {
        due.sentence("A rider who takes a horse whose temper is above what the rider can do falls");
        int[][] cases = {{0, 0, 0}, {1, 0, 1}, {5, 5, 0}, {6, 5, 1}, {4, 5, 0}, {9, 9, 0}, {9, 8, 1}, {9, 0, 1}};
        for (int[] each : cases) {
            LessonHorses stable = Given.freshHorse(each[1]);
            stable.setHorse(9, 126, each[0]);
            String when = " with temper " + each[0] + " and skill " + each[1];
            due.is("ifPassed(1, 2)" + when, bookedOnce(stable).ifPassed(1, 2), each[2]);
            due.is("pass(1)" + when, stable.pass(1), 1);
            due.is("falls of the rider" + when, stable.rider(0, 6), each[2]);
            due.is("falls from the horse" + when, stable.horse(9, 7), each[2]);
            due.is("count(5)" + when, stable.count(5), each[2]);
            due.is("fear" + when, stable.rider(0, 2), each[2]);
        }
    }

    private static LessonHorses bookedOnce(LessonHorses stable) {
        stable.book(0, 0, 0);
        return stable;
    }

    private static void fearIsAtMost9() {
        due.sentence("the fear is 1 more (but at most 9), and lessons in a row without a fall are 0.");
        LessonHorses stable = Given.freshHorse(8);
        Given.ride(stable, 2);
        due.is("lessons in a row", stable.rider(0, 4), 2);
        stable.setHorse(9, 126, 9);
        for (int falls = 1; falls <= 11; falls++) {
            due.is("a ride", Given.ride(stable, 1), 1);
            due.is("fear behind " + falls + " falls", stable.rider(0, 2), Math.min(falls, 9));
            due.is("lessons in a row behind " + falls + " falls", stable.rider(0, 4), 0);
            stable.pass(1);
        }
        due.is("falls", stable.rider(0, 6), 11);
    }

    private static void fearIsAtLeast0() {
        due.sentence("Otherwise the fear is 1 less (but at least 0), lessons in a row without a fall are 1 more");
        LessonHorses stable = Given.freshHorse(8);
        stable.setHorse(9, 126, 9);
        Given.ride(stable, 2);
        due.is("fear behind two falls", stable.rider(0, 2), 2);
        stable.setHorse(9, 126, 0);
        int[] fears = {1, 0, 0, 0};
        for (int lessons = 1; lessons <= fears.length; lessons++) {
            Given.ride(stable, 1);
            due.is("fear behind lesson " + lessons, stable.rider(0, 2), fears[lessons - 1]);
            due.is("lessons in a row", stable.rider(0, 4), lessons);
        }
    }

    private static void skillGrowsWithEachThirdInARow() {
        due.sentence("and if these can be divided by 3, the skill is 1 more");
        LessonHorses stable = Given.freshHorse(1);
        stable.setHorse(9, 126, 9);
        Given.ride(stable, 1);
        due.is("skill behind a fall", stable.rider(0, 1), 1);
        stable.setHorse(9, 126, 0);
        int[] skills = {1, 1, 2, 2, 2, 3, 3};
        for (int lessons = 1; lessons <= skills.length; lessons++) {
            Given.ride(stable, 1);
            due.is("skill behind " + lessons + " in a row", stable.rider(0, 1), skills[lessons - 1]);
        }
        stable.pass(2);
        stable.setHorse(9, 126, 9);
        Given.ride(stable, 1);
        due.is("skill behind a fall", stable.rider(0, 1), 3);
        stable.setHorse(9, 126, 0);
        Given.ride(stable, 2);
        due.is("skill behind two in a row, two more would have been nine", stable.rider(0, 1), 3);
        Given.ride(stable, 1);
        due.is("skill behind three in a row", stable.rider(0, 1), 4);
    }

    private static void skillIsAtMost9() {
        due.sentence("the skill is 1 more (but at most 9).");
        LessonHorses stable = Given.freshHorse(8);
        Given.ride(stable, 3);
        due.is("skill behind three in a row", stable.rider(0, 1), 9);
        Given.ride(stable, 3);
        due.is("lessons in a row", stable.rider(0, 4), 6);
        due.is("skill behind six in a row", stable.rider(0, 1), 9);
    }

    private static void strainIfTogetherAbove() {
        due.sentence("A horse that is taken is strained if the rider's weight, and the setting 2, are together above its "
                + "strength: it has one strain more");
        int[][] cases = {{125, 0, 0}, {125, 1, 1}, {121, 4, 0}, {121, 5, 1}, {121, 50, 1}, {124, 1, 0}, {124, 2, 1}};
        for (int[] each : cases) {
            LessonHorses stable = Given.freshHorse(9);
            stable.setRider(0, each[0], 9);
            stable.set(2, each[1]);
            due.is("a ride", Given.ride(stable, 1), 1);
            due.is("strains by " + each[0] + " and " + each[1], stable.horse(9, 4), each[2]);
            due.is("not taken, not strained", stable.pass(1), 0);
            due.is("strains an hour later", stable.horse(9, 4), each[2]);
        }
    }

    private static void lameWithTheThirdStrain() {
        due.sentence("with the third one it is lame for as many hours as the setting 3 tells, and has no strains any more.");
        for (int hours : new int[] {1, 2, 20, 99}) {
            LessonHorses stable = Given.freshHorse(9);
            stable.set(2, 5);
            stable.set(3, hours);
            for (int strains = 1; strains <= 2; strains++) {
                Given.ride(stable, 1);
                due.is("strains", stable.horse(9, 4), strains);
                due.is("lame", stable.horse(9, 5), 0);
                due.is("lame horses", stable.count(7), 0);
            }
            Given.ride(stable, 1);
            due.is("strains behind the third", stable.horse(9, 4), 0);
            due.is("lame behind the third", stable.horse(9, 5), hours);
            due.is("lame horses behind the third", stable.count(7), 1);
            stable.pass(hours);
            due.is("lame that much later", stable.horse(9, 5), 0);
            Given.ride(stable, 1);
            due.is("the strains are counted from 0 again", stable.horse(9, 4), 1);
        }
    }
}
