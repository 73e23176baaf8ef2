/** A riding stable that gives lessons. The shared document DOC.md says what each call answers. */
public final class LessonHorses {
    public static final int UNKNOWN = -1;
    public static final int BAD_VALUE = -2;
    public static final int FULL = -3;
    public static final int NOT_POSSIBLE = -4;
    public static final int NONE = -5;

    private static final int HORSES = 10;
    private static final int RIDERS = 12;
    private static final int RINGS = 3;
    private static final int SETTINGS = 5;
    private static final int[] ROOM_OF_RING = {4, 3, 2};

    private static final int[] LEAST_OF_SETTING = {1, 1, 0, 1, 1};
    private static final int[] MOST_OF_SETTING = {9, 99, 50, 99, 9};
    private static final int[] FIRST_OF_SETTING = {3, 12, 5, 20, 3};

    private static final int MOST_HOURS = 99;
    private static final int LAST_TIME = 9999;
    private static final int LAST_WAIT = 200;
    private static final int HOURS_OF_DAY = 10;
    private static final int NIGHTS_REST = 8;
    private static final int LEAST_WEIGHT = 20;
    private static final int MOST_WEIGHT = 150;
    private static final int MOST_GRADE = 9;
    private static final int STRAINS_TO_LAME = 3;
    private static final int LESSONS_TO_LEARN = 3;
    private static final int MOST_BOOKINGS = 40;
    private static final int MOST_FALLS = 20;
    private static final int MOST_STATES = 4;
    private static final int MOST_CHARACTERS = 60;
    private static final int FAULT_BASE = -100;

    private final Stable now = new Stable();
    // What would be is played on this one, so that no call has to make a stable of its own.
    private final Stable ahead = new Stable();
    private final Stable snapshot = new Stable();
    private boolean hasSnapshot;
    private final History history = new History();
    private final Text text = new Text();
    private final Plan plan = new Plan();

    public LessonHorses() {
    }

    // ---- horses, riders

    public int setHorse(int horse, int strength, int temper) {
        if (isNoHorse(horse)) {
            return UNKNOWN;
        }
        if (isOutside(strength, LEAST_WEIGHT, MOST_WEIGHT) || isOutside(temper, 0, MOST_GRADE)) {
            return BAD_VALUE;
        }
        int previous = now.ofHorse(horse, Stable.STRENGTH);
        if (previous == strength && now.ofHorse(horse, Stable.TEMPER) == temper) {
            return NONE;
        }
        history.record(now);
        now.changeHorse(horse, strength, temper);
        return previous;
    }

    public int setRider(int rider, int weight, int skill) {
        if (isNoRider(rider)) {
            return UNKNOWN;
        }
        if (isOutside(weight, LEAST_WEIGHT, MOST_WEIGHT) || isOutside(skill, 0, MOST_GRADE)) {
            return BAD_VALUE;
        }
        int previous = now.ofRider(rider, Stable.WEIGHT);
        history.record(now);
        now.changeRider(rider, weight, skill);
        return previous;
    }

    public int set(int which, int value) {
        if (isOutside(which, 0, SETTINGS - 1)) {
            return UNKNOWN;
        }
        if (isOutside(value, entry(LEAST_OF_SETTING, which), entry(MOST_OF_SETTING, which))) {
            return BAD_VALUE;
        }
        int previous = now.setting(which);
        if (previous == value) {
            return NONE;
        }
        history.record(now);
        now.changeSetting(which, value);
        return previous;
    }

    // ---- bookings, hours

    public int book(int hours, int ring, int rider) {
        if (isNoRing(ring) || isNoRider(rider)) {
            return UNKNOWN;
        }
        if (isOutside(hours, 0, MOST_HOURS)) {
            return BAD_VALUE;
        }
        int error = now.bookingError(hours, ring, rider);
        if (error != 0) {
            return error;
        }
        history.record(now);
        now.addBooking(hours, ring, rider);
        return now.bookedFor(hours, ring);
    }

    public int cancel(int hours, int rider) {
        if (isNoRider(rider)) {
            return UNKNOWN;
        }
        if (isOutside(hours, 0, MOST_HOURS)) {
            return BAD_VALUE;
        }
        int index = now.findBooking(hours, rider);
        if (index == NONE) {
            return NONE;
        }
        int ring = now.ringOfBooking(index);
        history.record(now);
        now.removeBooking(index);
        return ring;
    }

    public int pass(int hours) {
        if (isOutside(hours, 1, MOST_HOURS)) {
            return BAD_VALUE;
        }
        if (now.time() > LAST_TIME - hours) {
            return FULL;
        }
        history.record(now);
        int ridesBefore = now.sumOfHorses(Stable.TAKEN);
        for (int passed = 0; passed < hours; passed++) {
            now.passHour(true);
        }
        return now.sumOfHorses(Stable.TAKEN) - ridesBefore;
    }

    // ---- texts

    public int type(char character) {
        return text.append(character) ? text.length() : FULL;
    }

    public int clearText() {
        int previous = text.length();
        text.empty();
        return previous;
    }

    public int bookPlan() {
        int fault = plan.read(text);
        if (fault != NONE) {
            return FAULT_BASE - fault;
        }
        ahead.copyFrom(now);
        for (int index = 0; index < plan.size(); index++) {
            int hours = plan.hoursAt(index);
            int ring = plan.ringAt(index);
            int rider = plan.riderAt(index);
            int error = ahead.bookingError(hours, ring, rider);
            if (error != 0) {
                return error;
            }
            ahead.addBooking(hours, ring, rider);
        }
        history.record(now);
        now.copyFrom(ahead);
        return plan.size();
    }

    // ---- history

    public int undo() {
        if (history.size() == 0) {
            return NONE;
        }
        history.takeBack(now);
        return history.size();
    }

    public int keep() {
        snapshot.copyFrom(now);
        hasSnapshot = true;
        return now.time();
    }

    public int restore() {
        if (!hasSnapshot) {
            return NONE;
        }
        history.record(now);
        now.copyFrom(snapshot);
        return now.time();
    }

    // ---- what is told

    public int horse(int horse, int what) {
        if (isNoHorse(horse)) {
            return UNKNOWN;
        }
        return isOutside(what, 0, Stable.HORSE_ROWS - 1) ? BAD_VALUE : now.ofHorse(horse, what);
    }

    public int rider(int rider, int what) {
        if (isNoRider(rider)) {
            return UNKNOWN;
        }
        return isOutside(what, 0, Stable.RIDER_ROWS - 1) ? BAD_VALUE : now.ofRider(rider, what);
    }

    public int lesson(int hours, int ring, int what) {
        if (isNoRing(ring)) {
            return UNKNOWN;
        }
        if (isOutside(hours, 0, MOST_HOURS) || isOutside(what, 0, 2)) {
            return BAD_VALUE;
        }
        if (what == 2) {
            return now.setOfRiders(hours, ring);
        }
        int booked = now.bookedFor(hours, ring);
        return what == 0 ? booked : entry(ROOM_OF_RING, ring) - booked;
    }

    public int fall(int rank, int what) {
        if (rank < 0 || isOutside(what, 0, Stable.FALL_ROWS - 1)) {
            return BAD_VALUE;
        }
        return now.ofFall(rank, what);
    }

    public int reason(int horse, int rider) {
        if (isNoHorse(horse) || isNoRider(rider)) {
            return UNKNOWN;
        }
        return now.hindrance(horse, rider, now.farriersHorse());
    }

    public int best(int rider) {
        if (isNoRider(rider)) {
            return UNKNOWN;
        }
        return now.bestHorse(rider, now.farriersHorse(), 0);
    }

    public int takenIn(int horse, int rider) {
        if (isNoHorse(horse) || isNoRider(rider)) {
            return UNKNOWN;
        }
        // Waiting makes no horse stronger.
        if (now.ofHorse(horse, Stable.STRENGTH) < now.ofRider(rider, Stable.WEIGHT)) {
            return NONE;
        }
        ahead.copyFrom(now);
        for (int hours = 0; hours <= LAST_WAIT; hours++) {
            if (ahead.hindrance(horse, rider, ahead.farriersHorse()) == 0) {
                return hours;
            }
            ahead.passHour(false);
        }
        return NONE;
    }

    public int ifPassed(int hours, int what) {
        if (isOutside(hours, 1, MOST_HOURS) || isOutside(what, 0, 3)) {
            return BAD_VALUE;
        }
        ahead.copyFrom(now);
        for (int passed = 0; passed < hours; passed++) {
            ahead.passHour(true);
        }
        switch (what) {
            case 0:
                return ahead.sumOfHorses(Stable.TAKEN) - now.sumOfHorses(Stable.TAKEN);
            case 1:
                return ahead.sumOfRiders(Stable.LEFT_OUT) - now.sumOfRiders(Stable.LEFT_OUT);
            case 2:
                return ahead.fallsSoFar() - now.fallsSoFar();
            default:
                return ahead.lameHorses();
        }
    }

    public int busiest() {
        int most = 0;
        int found = NONE;
        for (int hours = 0; hours <= MOST_HOURS; hours++) {
            int booked = now.bookedInAllRings(hours);
            if (booked > most) {
                most = booked;
                found = hours;
            }
        }
        return found;
    }

    public int count(int what) {
        switch (what) {
            case 0:
                return now.time();
            case 1:
                return now.time() / HOURS_OF_DAY;
            case 2:
                return now.time() % HOURS_OF_DAY;
            case 3:
                return now.bookingsWaiting();
            case 4:
                return now.sumOfHorses(Stable.TAKEN);
            case 5:
                return now.fallsSoFar();
            case 6:
                return now.sumOfRiders(Stable.LEFT_OUT);
            case 7:
                return now.lameHorses();
            case 8:
                return now.sumOfHorses(Stable.SHOD);
            case 9:
                return now.sumOfHorses(Stable.TIREDNESS);
            case 10:
                return now.isFarrierThere() ? 1 : 0;
            case 11:
                return now.farriersHorse();
            case 12:
            case 13:
            case 14:
            case 15:
            case 16:
                return now.setting(what - 12);
            case 17:
                return history.size();
            case 18:
                return text.length();
            default:
                return BAD_VALUE;
        }
    }

    private static boolean isOutside(int value, int least, int most) {
        return value < least || value > most;
    }

    private static boolean isNoHorse(int horse) {
        return isOutside(horse, 0, HORSES - 1);
    }

    private static boolean isNoRider(int rider) {
        return isOutside(rider, 0, RIDERS - 1);
    }

    private static boolean isNoRing(int ring) {
        return isOutside(ring, 0, RINGS - 1);
    }

    private static int entry(int[] row, int index) {
        return index >= 0 && index < row.length ? row[index] : 0;
    }

    /** Rows of numbers. A cell outside reads as 0 and keeps nothing, so that every index is looked at in one place. */
    private static final class Table {
        private final int width;
        private final int[] cells;

        Table(int rows, int width) {
            int size = rows * width;
            this.width = width;
            this.cells = new int[size > 0 ? size : 0];
        }

        int at(int row, int column) {
            int cell = row * width + column;
            return column >= 0 && column < width && cell >= 0 && cell < cells.length ? cells[cell] : 0;
        }

        void put(int row, int column, int value) {
            int cell = row * width + column;
            if (column >= 0 && column < width && cell >= 0 && cell < cells.length) {
                cells[cell] = value;
            }
        }

        void add(int row, int column, int change) {
            put(row, column, at(row, column) + change);
        }

        void takeAway(int row, int column, int change) {
            put(row, column, Math.max(0, at(row, column) - change));
        }

        void addUpTo(int row, int column, int most) {
            put(row, column, Math.min(most, at(row, column) + 1));
        }

        int sum(int row) {
            int sum = 0;
            for (int column = 0; column < width; column++) {
                sum += at(row, column);
            }
            return sum;
        }

        void moveColumn(int from, int to, int rows) {
            for (int row = 0; row < rows; row++) {
                put(row, to, at(row, from));
            }
        }

        void copyFrom(Table other) {
            if (other.cells.length == cells.length) {
                System.arraycopy(other.cells, 0, cells, 0, cells.length);
            }
        }
    }

    /** A state: all that undo and the snapshot bring back. */
    private static final class Stable {
        // The rows of horses, riders and falls have the numbers by which the calls ask for them.
        static final int STRENGTH = 0;
        static final int TEMPER = 1;
        static final int TIREDNESS = 2;
        static final int WORN = 3;
        static final int STRAINS = 4;
        static final int LAME = 5;
        static final int TAKEN = 6;
        static final int THREW = 7;
        static final int SHOD = 8;
        static final int HORSE_ROWS = 9;

        static final int WEIGHT = 0;
        static final int SKILL = 1;
        static final int FEAR = 2;
        static final int ABILITY = 3;
        static final int LESSONS_IN_ROW = 4;
        static final int RIDES = 5;
        static final int FALLS = 6;
        static final int LEFT_OUT = 7;
        static final int BOOKINGS = 8;
        static final int LATEST_HORSE = 9;
        static final int RIDER_ROWS = 10;

        static final int FALL_TIME = 0;
        static final int FALL_RIDER = 1;
        static final int FALL_HORSE = 2;
        static final int FALL_ROWS = 3;

        static final int BOOKED_TIME = 0;
        static final int BOOKED_RING = 1;
        static final int BOOKED_RIDER = 2;
        static final int BOOKING_ROWS = 3;

        static final int TIRED_LIMIT = 0;
        static final int SHOE_LIMIT = 1;
        static final int SPARE_STRENGTH = 2;
        static final int LAME_HOURS = 3;
        static final int FARRIER_DAYS = 4;

        private int time;
        private final Table settings = new Table(1, SETTINGS);
        private final Table horses = new Table(HORSE_ROWS, HORSES);
        // The rows for what a rider can do and for bookings stay empty: both are counted when asked for.
        private final Table riders = new Table(RIDER_ROWS, RIDERS);
        // The bookings stand in the order in which they were made.
        private final Table bookings = new Table(BOOKING_ROWS, MOST_BOOKINGS);
        private int bookingCount;
        // A fall overwrites the one that was MOST_FALLS earlier.
        private final Table falls = new Table(FALL_ROWS, MOST_FALLS);
        private int fallCount;

        Stable() {
            for (int which = 0; which < SETTINGS; which++) {
                settings.put(0, which, entry(FIRST_OF_SETTING, which));
            }
            for (int horse = 0; horse < HORSES; horse++) {
                horses.put(STRENGTH, horse, 80 + 5 * horse);
                horses.put(TEMPER, horse, horse % 4);
            }
            for (int rider = 0; rider < RIDERS; rider++) {
                riders.put(WEIGHT, rider, 40 + 6 * rider);
                riders.put(SKILL, rider, 1);
                riders.put(LATEST_HORSE, rider, NONE);
            }
        }

        void copyFrom(Stable other) {
            time = other.time;
            settings.copyFrom(other.settings);
            horses.copyFrom(other.horses);
            riders.copyFrom(other.riders);
            bookings.copyFrom(other.bookings);
            bookingCount = other.bookingCount;
            falls.copyFrom(other.falls);
            fallCount = other.fallCount;
        }

        int time() {
            return time;
        }

        int setting(int which) {
            return settings.at(0, which);
        }

        void changeSetting(int which, int value) {
            settings.put(0, which, value);
        }

        // ---- horses and riders

        int ofHorse(int horse, int row) {
            return horses.at(row, horse);
        }

        void changeHorse(int horse, int strength, int temper) {
            horses.put(STRENGTH, horse, strength);
            horses.put(TEMPER, horse, temper);
        }

        int sumOfHorses(int row) {
            return horses.sum(row);
        }

        int lameHorses() {
            int lame = 0;
            for (int horse = 0; horse < HORSES; horse++) {
                lame += horses.at(LAME, horse) > 0 ? 1 : 0;
            }
            return lame;
        }

        int ofRider(int rider, int row) {
            switch (row) {
                case ABILITY:
                    return abilityOf(rider);
                case BOOKINGS:
                    return bookingsOf(rider);
                default:
                    return riders.at(row, rider);
            }
        }

        void changeRider(int rider, int weight, int skill) {
            riders.put(WEIGHT, rider, weight);
            riders.put(SKILL, rider, skill);
            riders.put(FEAR, rider, 0);
            riders.put(LESSONS_IN_ROW, rider, 0);
        }

        int sumOfRiders(int row) {
            return riders.sum(row);
        }

        private int abilityOf(int rider) {
            return Math.max(0, riders.at(SKILL, rider) - riders.at(FEAR, rider));
        }

        // ---- bookings

        int bookingsWaiting() {
            return bookingCount;
        }

        int ringOfBooking(int index) {
            return bookings.at(BOOKED_RING, index);
        }

        private boolean isBooked(int index, int hours) {
            return bookings.at(BOOKED_TIME, index) == time + hours;
        }

        private boolean isBooked(int index, int hours, int ring) {
            return isBooked(index, hours) && bookings.at(BOOKED_RING, index) == ring;
        }

        int findBooking(int hours, int rider) {
            for (int index = 0; index < bookingCount; index++) {
                if (isBooked(index, hours) && bookings.at(BOOKED_RIDER, index) == rider) {
                    return index;
                }
            }
            return NONE;
        }

        int bookedFor(int hours, int ring) {
            int booked = 0;
            for (int index = 0; index < bookingCount; index++) {
                booked += isBooked(index, hours, ring) ? 1 : 0;
            }
            return booked;
        }

        int bookedInAllRings(int hours) {
            int booked = 0;
            for (int index = 0; index < bookingCount; index++) {
                booked += isBooked(index, hours) ? 1 : 0;
            }
            return booked;
        }

        int setOfRiders(int hours, int ring) {
            int set = 0;
            for (int index = 0; index < bookingCount; index++) {
                if (isBooked(index, hours, ring)) {
                    set |= 1 << bookings.at(BOOKED_RIDER, index);
                }
            }
            return set;
        }

        private int bookingsOf(int rider) {
            int booked = 0;
            for (int index = 0; index < bookingCount; index++) {
                booked += bookings.at(BOOKED_RIDER, index) == rider ? 1 : 0;
            }
            return booked;
        }

        /** Tells why a booking cannot be made, or 0. */
        int bookingError(int hours, int ring, int rider) {
            if (findBooking(hours, rider) != NONE) {
                return NOT_POSSIBLE;
            }
            boolean isRingFull = bookedFor(hours, ring) >= entry(ROOM_OF_RING, ring);
            return isRingFull || bookingCount >= MOST_BOOKINGS ? FULL : 0;
        }

        void addBooking(int hours, int ring, int rider) {
            bookings.put(BOOKED_TIME, bookingCount, time + hours);
            bookings.put(BOOKED_RING, bookingCount, ring);
            bookings.put(BOOKED_RIDER, bookingCount, rider);
            bookingCount = Math.min(bookingCount + 1, MOST_BOOKINGS);
        }

        void removeBooking(int removed) {
            for (int index = removed + 1; index < bookingCount; index++) {
                bookings.moveColumn(index, index - 1, BOOKING_ROWS);
            }
            bookingCount = Math.max(bookingCount - 1, 0);
        }

        // ---- an hour

        boolean isFarrierThere() {
            int days = settings.at(0, FARRIER_DAYS);
            return days > 0 && time / HOURS_OF_DAY % days == 0;
        }

        int farriersHorse() {
            int longest = 0;
            int found = NONE;
            if (!isFarrierThere()) {
                return found;
            }
            for (int horse = 0; horse < HORSES; horse++) {
                int worn = horses.at(WORN, horse);
                if (worn > longest) {
                    longest = worn;
                    found = horse;
                }
            }
            return found;
        }

        /** Tells, as reason() does, why a horse that was not taken yet cannot be taken. */
        int hindrance(int horse, int rider, int farriers) {
            if (horses.at(LAME, horse) > 0) {
                return 1;
            }
            if (horse == farriers) {
                return 2;
            }
            if (horses.at(WORN, horse) >= settings.at(0, SHOE_LIMIT)) {
                return 3;
            }
            if (horses.at(TIREDNESS, horse) >= settings.at(0, TIRED_LIMIT)) {
                return 4;
            }
            return horses.at(STRENGTH, horse) < riders.at(WEIGHT, rider) ? 5 : 0;
        }

        int bestHorse(int rider, int farriers, int takenSet) {
            int ability = abilityOf(rider);
            int found = NONE;
            for (int horse = 0; horse < HORSES; horse++) {
                if ((takenSet >> horse & 1) == 0 && hindrance(horse, rider, farriers) == 0
                        && (found == NONE || isBetter(horse, found, ability))) {
                    found = horse;
                }
            }
            return found;
        }

        private boolean isBetter(int horse, int other, int ability) {
            boolean isGentle = horses.at(TEMPER, horse) <= ability;
            boolean isOtherGentle = horses.at(TEMPER, other) <= ability;
            if (isGentle != isOtherGentle) {
                return isGentle;
            }
            int moreTired = horses.at(TIREDNESS, horse) - horses.at(TIREDNESS, other);
            int stronger = horses.at(STRENGTH, horse) - horses.at(STRENGTH, other);
            return moreTired < 0 || moreTired == 0 && stronger < 0;
        }

        void passHour(boolean withLessons) {
            int farriers = farriersHorse();
            int takenSet = withLessons ? giveLessons(farriers) : 0;
            for (int horse = 0; horse < HORSES; horse++) {
                if ((takenSet >> horse & 1) == 1) {
                    horses.add(TIREDNESS, horse, 1);
                    horses.add(WORN, horse, 1);
                } else {
                    horses.takeAway(TIREDNESS, horse, 1);
                    // A taken horse was not lame ahead of the hour, so only the others can be nearer to health.
                    horses.takeAway(LAME, horse, 1);
                }
                if (time % HOURS_OF_DAY == HOURS_OF_DAY - 1) {
                    horses.takeAway(TIREDNESS, horse, NIGHTS_REST);
                }
            }
            if (farriers != NONE) {
                horses.put(WORN, farriers, 0);
                horses.add(SHOD, farriers, 1);
            }
            time++;
        }

        /** Gives the lessons of this hour, and answers the set of the horses that were taken. */
        private int giveLessons(int farriers) {
            int takenSet = 0;
            int waiting = 0;
            for (int index = 0; index < bookingCount; index++) {
                if (isBooked(index, 0)) {
                    takenSet |= giveLesson(bookings.at(BOOKED_RIDER, index), farriers, takenSet);
                } else {
                    if (waiting < index) {
                        bookings.moveColumn(index, waiting, BOOKING_ROWS);
                    }
                    waiting++;
                }
            }
            bookingCount = waiting;
            return takenSet;
        }

        /** Lets a rider ride, and answers the set of the one horse that is taken, or an empty one. */
        private int giveLesson(int rider, int farriers, int takenSet) {
            int horse = bestHorse(rider, farriers, takenSet);
            if (horse == NONE) {
                riders.add(LEFT_OUT, rider, 1);
                return 0;
            }
            horses.add(TAKEN, horse, 1);
            riders.add(RIDES, rider, 1);
            riders.put(LATEST_HORSE, rider, horse);
            if (horses.at(TEMPER, horse) > abilityOf(rider)) {
                letFall(rider, horse);
            } else {
                letLearn(rider);
            }
            strain(horse, riders.at(WEIGHT, rider));
            return 1 << horse;
        }

        private void letFall(int rider, int horse) {
            riders.addUpTo(FEAR, rider, MOST_GRADE);
            riders.put(LESSONS_IN_ROW, rider, 0);
            riders.add(FALLS, rider, 1);
            horses.add(THREW, horse, 1);
            int column = fallCount % MOST_FALLS;
            falls.put(FALL_TIME, column, time);
            falls.put(FALL_RIDER, column, rider);
            falls.put(FALL_HORSE, column, horse);
            fallCount++;
        }

        private void letLearn(int rider) {
            riders.takeAway(FEAR, rider, 1);
            riders.add(LESSONS_IN_ROW, rider, 1);
            if (riders.at(LESSONS_IN_ROW, rider) % LESSONS_TO_LEARN == 0) {
                riders.addUpTo(SKILL, rider, MOST_GRADE);
            }
        }

        private void strain(int horse, int weight) {
            if (weight + settings.at(0, SPARE_STRENGTH) <= horses.at(STRENGTH, horse)) {
                return;
            }
            horses.add(STRAINS, horse, 1);
            if (horses.at(STRAINS, horse) >= STRAINS_TO_LAME) {
                horses.put(LAME, horse, settings.at(0, LAME_HOURS));
                horses.put(STRAINS, horse, 0);
            }
        }

        // ---- falls

        int fallsSoFar() {
            return fallCount;
        }

        int ofFall(int rank, int row) {
            if (rank < 0 || rank >= Math.min(fallCount, MOST_FALLS)) {
                return NONE;
            }
            return falls.at(row, (fallCount - 1 - rank) % MOST_FALLS);
        }
    }

    /** The latest states; what is beyond the limit overwrites the oldest. */
    private static final class History {
        private final Stable[] states = new Stable[MOST_STATES];
        private int next;
        private int size;

        History() {
            for (int index = 0; index < states.length; index++) {
                states[index] = new Stable();
            }
        }

        int size() {
            return size;
        }

        private Stable stateAt(int index) {
            return index >= 0 && index < states.length ? states[index] : null;
        }

        void record(Stable stable) {
            Stable state = stateAt(next);
            if (state != null) {
                state.copyFrom(stable);
            }
            next = (next + 1) % MOST_STATES;
            size = Math.min(size + 1, MOST_STATES);
        }

        void takeBack(Stable stable) {
            next = (next + MOST_STATES - 1) % MOST_STATES;
            size = Math.max(size - 1, 0);
            Stable state = stateAt(next);
            if (state != null) {
                stable.copyFrom(state);
            }
        }
    }

    /** What was typed. */
    private static final class Text {
        private final char[] characters = new char[MOST_CHARACTERS];
        private int length;

        int length() {
            return length;
        }

        char characterAt(int index) {
            return index >= 0 && index < characters.length ? characters[index] : 0;
        }

        /** Answers whether there was room. */
        boolean append(char character) {
            if (length < 0 || length >= characters.length) {
                return false;
            }
            characters[length] = character;
            length++;
            return true;
        }

        void empty() {
            length = 0;
        }
    }

    /** The bookings that a text asks for, read one character after the other. */
    private static final class Plan {
        // What the reader is at: the sign that begins a booking, or one of its three numbers.
        private static final int AT_START = 0;
        private static final int AT_HOURS = 1;
        private static final int AT_RING = 2;
        private static final int AT_RIDER = 3;
        // At the start no digit is allowed at all.
        private static final int[] MOST_AT = {-1, 99, 2, 11};
        private static final int NO_DIGIT_YET = -1;

        private static final int HOURS_ROW = 0;
        private static final int RING_ROW = 1;
        private static final int RIDER_ROW = 2;
        private static final int PLAN_ROWS = 3;

        // A rider takes a digit and a sign at least, so there are fewer riders than characters.
        private final Table entries = new Table(PLAN_ROWS, MOST_CHARACTERS);
        private int size;
        private int place;
        private int number;
        private int hours;
        private int ring;

        int size() {
            return size;
        }

        int hoursAt(int index) {
            return entries.at(HOURS_ROW, index);
        }

        int ringAt(int index) {
            return entries.at(RING_ROW, index);
        }

        int riderAt(int index) {
            return entries.at(RIDER_ROW, index);
        }

        /** Reads the plan of a text, and answers the fault of the text, or NONE. */
        int read(Text text) {
            size = 0;
            moveTo(AT_START);
            for (int index = 0; index < text.length(); index++) {
                if (!accepts(text.characterAt(index))) {
                    return index;
                }
            }
            if (place != AT_RIDER || number == NO_DIGIT_YET) {
                return text.length();
            }
            addEntry();
            return NONE;
        }

        private void moveTo(int nextPlace) {
            place = nextPlace;
            number = NO_DIGIT_YET;
        }

        private void addEntry() {
            entries.put(HOURS_ROW, size, hours);
            entries.put(RING_ROW, size, ring);
            entries.put(RIDER_ROW, size, number);
            size = Math.min(size + 1, MOST_CHARACTERS);
        }

        private boolean accepts(char character) {
            if (character >= '0' && character <= '9') {
                return acceptsDigit(character - '0');
            }
            if (character == '+') {
                return acceptsStart();
            }
            return number != NO_DIGIT_YET && acceptsSignBehindNumber(character);
        }

        private boolean acceptsDigit(int digit) {
            if (number == 0) {
                return false;
            }
            int value = number == NO_DIGIT_YET ? digit : number * 10 + digit;
            if (value > entry(MOST_AT, place)) {
                return false;
            }
            number = value;
            return true;
        }

        private boolean acceptsStart() {
            if (place != AT_START) {
                return false;
            }
            moveTo(AT_HOURS);
            return true;
        }

        private boolean acceptsSignBehindNumber(char sign) {
            if (place == AT_HOURS && sign == '/') {
                hours = number;
                moveTo(AT_RING);
                return true;
            }
            if (place == AT_RING && sign == ':') {
                ring = number;
                moveTo(AT_RIDER);
                return true;
            }
            if (place == AT_RIDER && (sign == ',' || sign == ';')) {
                addEntry();
                moveTo(sign == ',' ? AT_RIDER : AT_START);
                return true;
            }
            return false;
        }
    }
}
