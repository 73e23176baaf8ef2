/** Stables in which one thing stands at its edge, for the tests of the edges. */
final class Given {
    static final int UNKNOWN = -1;
    static final int BAD_VALUE = -2;
    static final int FULL = -3;
    static final int NOT_POSSIBLE = -4;
    static final int NONE = -5;

    static final int LEAST = Integer.MIN_VALUE;
    static final int MOST = Integer.MAX_VALUE;
    // Some of them have good numbers in their lower bytes, or a good distance from the least int: a program that cuts
    // a number, or whose difference wraps around, would let them pass.
    static final int[] NO_HORSES = {-1, 10, -10, 256, 1 << 16, LEAST, LEAST + 9, MOST};
    static final int[] NO_RIDERS = {-1, 12, -12, 32, 256, 1 << 16, LEAST, LEAST + 11, MOST};
    static final int[] NO_RINGS = {-1, 3, -3, 256, 1 << 16, LEAST, LEAST + 2, MOST};
    static final int[] NO_HOURS_FROM_NOW = {-1, 100, -99, 256, 1 << 16, LEAST, MOST};
    static final int[] NO_HOURS_TO_PASS = {0, -1, 100, -99, 256, 1 << 16, LEAST, LEAST + 1, MOST};
    static final int[] NO_WEIGHTS = {19, 151, 0, -1, -20, 256 + 80, (1 << 16) + 80, LEAST, LEAST + 80, MOST};
    static final int[] NO_GRADES = {-1, 10, -9, 256, 1 << 16, LEAST, LEAST + 9, MOST};

    /** Only the horse 9, with its strength of 125, carries so much. */
    static final int HEAVY = 121;

    private Given() {
    }

    /** The day 1, on which the farrier is not there at first. */
    static LessonHorses dayOne() {
        LessonHorses stable = new LessonHorses();
        stable.pass(10);
        return stable;
    }

    /** The day 1; the riders 0 and 1 are so heavy that they take the horse 9 or none; nothing strains it. */
    static LessonHorses heavyRiders(int skill) {
        LessonHorses stable = dayOne();
        stable.set(2, 0);
        stable.setRider(0, HEAVY, skill);
        stable.setRider(1, HEAVY, skill);
        return stable;
    }

    /** As heavyRiders, but neither tiredness (but for 9) nor shoes hinder the horse 9, and the farrier comes late. */
    static LessonHorses freshHorse(int skill) {
        LessonHorses stable = heavyRiders(skill);
        stable.set(0, 9);
        stable.set(1, 99);
        stable.set(4, 9);
        return stable;
    }

    /** Lets the rider 0 ride once in each of so many hours, and answers how often that came off. */
    static int ride(LessonHorses stable, int hours) {
        for (int hour = 0; hour < hours; hour++) {
            stable.book(hour, 0, 0);
        }
        return stable.pass(hours);
    }

    /** The last time that there is, 9999, behind 102 calls. */
    static LessonHorses atTheEnd() {
        LessonHorses stable = new LessonHorses();
        for (int passed = 0; passed < 101; passed++) {
            stable.pass(99);
        }
        return stable;
    }

    /** Forty bookings, the last four of which are the states of the history. */
    static LessonHorses fortyBookings() {
        LessonHorses stable = new LessonHorses();
        for (int made = 0; made < 40; made++) {
            stable.book(made / 4, 0, made % 4);
        }
        return stable;
    }

    static void type(LessonHorses stable, String text) {
        stable.clearText();
        for (int index = 0; index < text.length(); index++) {
            stable.type(text.charAt(index));
        }
    }

    /** All that is told of a state, by less than 340 calls. */
    static int[] allTold(LessonHorses stable) {
        int[] told = new int[19 + 90 + 120 + 60 + 33 + 1];
        int next = 0;
        for (int what = 0; what < 19; what++) {
            told[next++] = stable.count(what);
        }
        for (int cell = 0; cell < 90; cell++) {
            told[next++] = stable.horse(cell / 9, cell % 9);
        }
        for (int cell = 0; cell < 120; cell++) {
            told[next++] = stable.rider(cell / 10, cell % 10);
        }
        for (int cell = 0; cell < 60; cell++) {
            told[next++] = stable.fall(cell / 3, cell % 3);
        }
        for (int cell = 0; cell < 33; cell++) {
            told[next++] = stable.lesson(cell / 3, cell % 3, 2);
        }
        told[next] = stable.busiest();
        return told;
    }
}
