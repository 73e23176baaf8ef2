/** The edges that the document names under "An hour" and "Settings", sentence by sentence. */
public final class EdgesOfHoursTest {
    private static final Due due = new Due("EdgesOfHoursTest");

    public static void main(String[] args) {
        farriersDays();
        farrierHasNoneWithNewShoes();
        farrierHasTheLongestWorn();
        farrierHasTheLowest();
        farrierHasOneAnHour();
        shoesAreNewBehindTheHour();
        farrierComesAheadOfTheLessons();
        takenHorsesTire();
        otherHorsesRest();
        lameAheadOfTheHour();
        nightTakes8();
        thenTheTimeIs1More();
        settings();
        settingOfTiredness();
        settingOfShoes();
        settingOfStrength();
        settingOfLameness();
        settingOfTheFarrier();
        due.finish();
    }

    private static void farriersDays() {
        due.sentence("If the day can be divided by the setting 4, the farrier is there");
        for (int days = 1; days <= 9; days++) {
            LessonHorses stable = new LessonHorses();
            stable.set(4, days);
            due.is("in the hour 0 of the day 0, every " + days, stable.count(10), 1);
            stable.pass(9);
            due.is("in the hour 9 of the day 0, every " + days, stable.count(10), 1);
            for (int day = 1; day <= 19; day++) {
                int there = day % days == 0 ? 1 : 0;
                stable.pass(1);
                due.is("in the hour 0 of the day " + day + ", every " + days, stable.count(10), there);
                stable.pass(9);
                due.is("in the hour 9 of the day " + day + ", every " + days, stable.count(10), there);
            }
        }
    }

    private static void farrierHasNoneWithNewShoes() {
        due.sentence("he has the horse whose shoes were worn the longest (for an hour at least)");
        LessonHorses stable = new LessonHorses();
        due.is("worn for 0 hours", stable.count(11), Given.NONE);
        stable.pass(1);
        due.is("nothing is shod", stable.count(8), 0);
        stable.set(4, 9);
        stable.pass(9);
        Given.ride(stable, 1);
        due.is("worn for an hour, but the farrier is not there", stable.count(11), Given.NONE);
        due.is("shoes", stable.horse(0, 3), 1);
        stable.set(4, 1);
        due.is("worn for an hour", stable.count(11), 0);
        stable.pass(1);
        due.is("shod", stable.count(8), 1);
        due.is("worn for 0 hours again", stable.count(11), Given.NONE);
    }

    /** The shoes of each horse were worn for so many hours; a day on which the farrier is there begins. */
    private static LessonHorses worn(int... hours) {
        LessonHorses stable = Given.freshHorse(9);
        stable.setRider(0, 150, 9);
        for (int horse = 0; horse < 10; horse++) {
            stable.setHorse(horse, 150, 0);
            if (hours[horse] > 0) {
                Given.ride(stable, hours[horse]);
            }
            stable.setHorse(horse, 20, 0);
            due.is("worn by " + horse, stable.horse(horse, 3), hours[horse]);
        }
        stable.pass(10 - stable.count(2));
        stable.setRider(0, 20, 9);
        stable.set(4, 1);
        return stable;
    }

    private static void farrierHasTheLongestWorn() {
        due.sentence("he has the horse whose shoes were worn the longest");
        due.is("the last one", worn(1, 1, 0, 1, 1, 1, 1, 1, 0, 2).count(11), 9);
        due.is("the first one", worn(4, 3, 3, 0, 2, 3, 3, 1, 0, 3).count(11), 0);
        due.is("one between", worn(4, 3, 5, 0, 2, 3, 6, 1, 0, 5).count(11), 6);
    }

    private static void farrierHasTheLowest() {
        due.sentence("of several the lowest");
        due.is("all of them but one", worn(1, 1, 1, 1, 1, 1, 1, 1, 1, 0).count(11), 0);
        due.is("two of them", worn(1, 0, 2, 1, 1, 2, 1, 1, 0, 1).count(11), 2);
        due.is("the last two", worn(1, 1, 1, 0, 1, 2, 1, 2, 3, 3).count(11), 8);
    }

    private static void farrierHasOneAnHour() {
        due.sentence("he has the horse whose shoes were worn the longest (for an hour at least), of several the lowest");
        LessonHorses stable = worn(2, 1, 0, 3, 1, 1, 3, 2, 1, 4);
        int[] order = {9, 3, 6, 0, 7, 1, 4, 5, 8, Given.NONE};
        for (int hour = 0; hour < 10; hour++) {
            due.is("the farrier's horse in the hour " + hour, stable.count(11), order[hour]);
            due.is("shod so far", stable.count(8), hour);
            stable.pass(1);
        }
        due.is("all who were worn are shod", stable.count(8), 9);
        due.is("the other one is not", stable.horse(2, 8), 0);
    }

    private static void shoesAreNewBehindTheHour() {
        due.sentence("its shoes are new behind this hour.");
        LessonHorses stable = worn(0, 0, 0, 0, 0, 0, 0, 0, 0, 9);
        stable.set(1, 9);
        due.is("in the hour it is the farrier's", stable.reason(9, 0), 2);
        due.is("shoes ahead of the hour", stable.horse(9, 3), 9);
        stable.pass(1);
        due.is("shoes behind the hour", stable.horse(9, 3), 0);
        due.is("behind the hour it can be taken", stable.reason(9, 0), 0);
        due.sentence("The shoes of the horse that the farrier had were worn for 0 hours.");
        LessonHorses other = worn(0, 0, 0, 0, 0, 0, 0, 0, 1, 2);
        other.pass(1);
        due.is("shoes of the farrier's horse", other.horse(9, 3), 0);
        due.is("shoes of the one behind it", other.horse(8, 3), 1);
        due.is("shod, the farrier's horse", other.horse(9, 8), 1);
        due.is("shod, the one behind it", other.horse(8, 8), 0);
    }

    private static void farrierComesAheadOfTheLessons() {
        due.sentence("1. If the day can be divided by the setting 4, the farrier is there [..] 2. The lessons are given.");
        LessonHorses stable = worn(0, 0, 0, 0, 0, 0, 0, 0, 1, 2);
        stable.setHorse(8, 150, 0);
        stable.setHorse(9, 150, 0);
        for (int rider = 0; rider < 3; rider++) {
            stable.setRider(rider, 150, 9);
        }
        stable.book(0, 0, 0);
        stable.book(0, 0, 1);
        due.is("only one of two rides", stable.pass(1), 1);
        due.is("it is not the farrier's horse", stable.rider(0, 9), 8);
        // Behind the lessons both would be worn for as long, and he would have the lower one.
        due.is("shoes of the farrier's horse", stable.horse(9, 3), 0);
        due.is("shoes of the other one", stable.horse(8, 3), 2);
        due.is("his next one", stable.count(11), 8);
        stable.book(0, 0, 2);
        stable.pass(1);
        due.is("now the other one is taken", stable.rider(2, 9), 9);
    }

    private static void takenHorsesTire() {
        due.sentence("Each horse that was taken is tired by 1 more, and its shoes were worn for 1 hour more");
        LessonHorses stable = Given.freshHorse(9);
        for (int hour = 1; hour <= 9; hour++) {
            due.is("a ride", Given.ride(stable, 1), 1);
            due.is("tiredness in the hour " + hour, stable.horse(9, 2), hour);
            due.is("shoes in the hour " + hour, stable.horse(9, 3), hour);
            due.is("taken", stable.horse(9, 6), hour);
            due.is("tiredness of all", stable.count(9), hour);
        }
        due.is("a tenth ride", Given.ride(stable, 1), 0);
    }

    private static void otherHorsesRest() {
        due.sentence("each other one is tired by 1 less (but at least 0).");
        LessonHorses stable = Given.freshHorse(9);
        Given.ride(stable, 2);
        int[] tired = {1, 0, 0, 0};
        for (int hour = 0; hour < tired.length; hour++) {
            stable.pass(1);
            due.is("tiredness " + hour, stable.horse(9, 2), tired[hour]);
            due.is("tiredness of a horse that was never taken", stable.horse(8, 2), 0);
            due.is("shoes stay as worn", stable.horse(9, 3), 2);
        }
    }

    private static void lameAheadOfTheHour() {
        due.sentence("A horse that was lame ahead of this hour is so for an hour less.");
        LessonHorses stable = Given.freshHorse(9);
        stable.set(2, 50);
        stable.set(3, 3);
        Given.ride(stable, 2);
        due.is("sound", stable.horse(9, 5), 0);
        Given.ride(stable, 1);
        int[] lame = {3, 2, 1, 0, 0};
        for (int hour = 0; hour < lame.length; hour++) {
            due.is("lame, " + hour + " hours later", stable.horse(9, 5), lame[hour]);
            due.is("lame horses, " + hour + " hours later", stable.count(7), lame[hour] > 0 ? 1 : 0);
            due.is("another horse", stable.horse(8, 5), 0);
            stable.pass(1);
        }
        for (int horse = 0; horse < 10; horse++) {
            LessonHorses other = Given.dayOne();
            other.setHorse(horse, 150, 0);
            other.setRider(0, 150, 9);
            Given.ride(other, 3);
            due.is("lame, the horse " + horse, other.horse(horse, 5), 20);
            due.is("lame horses when it is " + horse, other.count(7), 1);
            due.is("lame horses a moment later when it is " + horse, other.ifPassed(19, 3), 1);
            due.is("lame horses later when it was " + horse, other.ifPassed(20, 3), 0);
        }
    }

    /** The horse 9 rode until it was so tired at the beginning of the hour 9 of a day. */
    private static LessonHorses tiredAheadOfTheNight(int tiredness) {
        LessonHorses stable = Given.freshHorse(9);
        stable.pass(9 - tiredness);
        Given.ride(stable, tiredness);
        due.is("hour of the day", stable.count(2), 9);
        due.is("tiredness ahead of the hour 9", stable.horse(9, 2), tiredness);
        return stable;
    }

    private static void nightTakes8() {
        due.sentence("4. If it was the hour 9, a night follows: each horse is tired by 8 less (but at least 0).");
        for (int tiredness = 1; tiredness <= 8; tiredness++) {
            LessonHorses stable = tiredAheadOfTheNight(tiredness);
            stable.pass(1);
            due.is("rested behind tiredness " + tiredness, stable.horse(9, 2), 0);
        }
        int[] takenInTheLastHour = {0, 0, 0, 0, 0, 0, 0, 0, 1};
        for (int tiredness = 1; tiredness <= 8; tiredness++) {
            LessonHorses stable = tiredAheadOfTheNight(tiredness);
            due.is("a ride in the hour 9", Given.ride(stable, 1), 1);
            due.is("taken behind tiredness " + tiredness, stable.horse(9, 2), takenInTheLastHour[tiredness]);
        }
        LessonHorses most = tiredAheadOfTheNight(9);
        due.is("too tired for the hour 9", Given.ride(most, 1), 0);
        due.is("rested by 1 and by 8", most.horse(9, 2), 0);
        due.is("a horse that was never taken", most.horse(0, 2), 0);
        due.is("tiredness of all", most.count(9), 0);
    }

    private static void thenTheTimeIs1More() {
        due.sentence("Then the time is 1 more.");
        LessonHorses stable = new LessonHorses();
        for (int time = 1; time <= 12; time++) {
            stable.pass(1);
            due.is("count(0)", stable.count(0), time);
        }
        stable.book(0, 0, 0);
        stable.book(1, 0, 0);
        due.is("the hour that comes next", stable.pass(1), 1);
        due.is("the one behind it waits", stable.lesson(0, 0, 2), 1);
    }

    private static void settings() {
        due.sentence("(In parentheses: range; first value.)");
        int[] least = {1, 1, 0, 1, 1};
        int[] most = {9, 99, 50, 99, 9};
        int[] first = {3, 12, 5, 20, 3};
        for (int which = 0; which < 5; which++) {
            LessonHorses stable = new LessonHorses();
            due.is("first value of " + which, stable.count(12 + which), first[which]);
            for (int value : new int[] {least[which] - 1, most[which] + 1, -first[which], 256 + first[which],
                    (1 << 16) + first[which], Given.LEAST, Given.LEAST + first[which], Given.MOST}) {
                due.is("set(" + which + ", " + value + ")", stable.set(which, value), Given.BAD_VALUE);
            }
            due.is("value of " + which + " behind", stable.count(12 + which), first[which]);
            due.is("the least of " + which, stable.set(which, least[which]), first[which]);
            due.is("the most of " + which, stable.set(which, most[which]), least[which]);
            due.is("value of " + which, stable.count(12 + which), most[which]);
        }
        LessonHorses stable = new LessonHorses();
        for (int which : new int[] {-1, 5, -5, 256, 1 << 16, Given.LEAST, Given.LEAST + 4, Given.MOST}) {
            due.is("set(" + which + ", 4)", stable.set(which, 4), Given.UNKNOWN);
        }
    }

    private static void settingOfTiredness() {
        due.sentence("0: the tiredness with which a horse cannot be taken any more (1 to 9; 3)");
        int[] limits = {1, 3, 9};
        for (int limit : limits) {
            LessonHorses stable = Given.freshHorse(9);
            stable.set(0, limit);
            due.is("rides in a row with " + limit, Given.ride(stable, limit), limit);
            due.is("one more with " + limit, Given.ride(stable, 1), 0);
        }
        LessonHorses first = Given.heavyRiders(9);
        due.is("rides in a row at first", Given.ride(first, 4), 3);
    }

    private static void settingOfShoes() {
        due.sentence("1: the hours for which shoes can be worn (1 to 99; 12)");
        LessonHorses stable = Given.heavyRiders(9);
        stable.set(0, 9);
        stable.set(4, 9);
        due.is("rides", Given.ride(stable, 9), 9);
        stable.pass(1);
        due.is("rides with the first value", Given.ride(stable, 6), 3);
        due.is("shoes", stable.horse(9, 3), 12);
        due.is("reason", stable.reason(9, 0), 3);
        stable.set(1, 13);
        due.is("reason with 13", stable.reason(9, 0), 0);
        stable.set(1, 1);
        due.is("reason with 1", stable.reason(9, 0), 3);
        due.is("another horse with 1", stable.reason(8, 2), 0);
        LessonHorses most = Given.freshHorse(9);
        due.is("rides with 99", rideForElevenDays(most), 99);
        due.is("shoes", most.horse(9, 3), 99);
        due.is("reason with 99 of 99", most.reason(9, 0), 3);
        due.is("one more ride", Given.ride(most, 1), 0);
    }

    /** Nine rides each day; the farrier's days are moved so that he is there on none of them. */
    private static int rideForElevenDays(LessonHorses stable) {
        int rides = 0;
        for (int day = 1; day <= 11; day++) {
            stable.set(4, day == 9 ? 8 : 9);
            due.is("reason on the day " + day, stable.reason(9, 0), 0);
            rides += Given.ride(stable, 9);
            stable.pass(1);
        }
        return rides;
    }

    private static void settingOfStrength() {
        due.sentence("2: the weight by which a horse must be stronger (0 to 50; 5)");
        int[][] cases = {{0, 125, 0}, {0, 124, 0}, {5, 120, 0}, {5, 121, 1}, {50, 75, 0}, {50, 76, 1}};
        for (int[] each : cases) {
            LessonHorses stable = Given.freshHorse(9);
            for (int horse = 0; horse < 9; horse++) {
                stable.setHorse(horse, 20, 9);
            }
            stable.set(2, each[0]);
            stable.setRider(0, each[1], 9);
            due.is("a ride", Given.ride(stable, 1), 1);
            due.is("strains with " + each[0] + " and " + each[1], stable.horse(9, 4), each[2]);
        }
        LessonHorses first = Given.dayOne();
        first.setRider(0, 121, 9);
        Given.ride(first, 1);
        due.is("strains with the first value", first.horse(9, 4), 1);
    }

    private static void settingOfLameness() {
        due.sentence("3: the hours of lameness (1 to 99; 20)");
        for (int hours : new int[] {1, 20, 99}) {
            LessonHorses stable = Given.freshHorse(9);
            stable.set(2, 5);
            stable.set(3, hours);
            Given.ride(stable, 3);
            due.is("takenIn with " + hours, stable.takenIn(9, 0), hours);
            stable.set(3, 50);
            due.is("a later value does not matter", stable.horse(9, 5), hours);
        }
    }

    private static void settingOfTheFarrier() {
        due.sentence("4: the days from one farrier's day to the next one (1 to 9; 3)");
        for (int days : new int[] {1, 3, 9}) {
            LessonHorses stable = new LessonHorses();
            stable.set(4, days);
            stable.pass(10);
            int hours = 0;
            while (stable.count(10) == 0 && hours < 200) {
                stable.pass(1);
                hours++;
            }
            due.is("hours until he comes again, every " + days, hours, 10 * days - 10);
        }
    }
}
