import java.util.ArrayDeque;
import java.util.ArrayList;
import java.util.Comparator;
import java.util.Deque;
import java.util.HashSet;
import java.util.List;
import java.util.Optional;
import java.util.Set;
import java.util.regex.Matcher;
import java.util.regex.Pattern;
import java.util.stream.IntStream;

/** The document once more, word by word and without a thought of room: what LessonHorses is compared with. */
final class Model {
    static final int UNKNOWN = -1;
    static final int BAD_VALUE = -2;
    static final int FULL = -3;
    static final int NOT_POSSIBLE = -4;
    static final int NONE = -5;

    private static final int[][] RANGES = {{1, 9}, {1, 99}, {0, 50}, {1, 99}, {1, 9}};
    private static final int[] ROOMS = {4, 3, 2};
    private static final String NUMBER_99 = "(0|[1-9]|[1-9][0-9])";
    private static final String NUMBER_11 = "(0|[1-9]|1[01])";
    private static final String BOOKING = "\\+" + NUMBER_99 + "/[0-2]:" + NUMBER_11 + "(," + NUMBER_11 + ")*";
    private static final Pattern PLAN = Pattern.compile(BOOKING + "(;" + BOOKING + ")*");

    private static final class Horse implements Cloneable {
        int number, strength, temper, tiredness, worn, strains, lame, taken, threw, shod;

        Horse copy() {
            try {
                return (Horse) clone();
            } catch (CloneNotSupportedException e) {
                throw new AssertionError(e);
            }
        }
    }

    private static final class Rider implements Cloneable {
        int number, weight, skill, fear, row, rides, falls, leftOut, latest;

        int ability() {
            return skill < fear ? 0 : skill - fear;
        }

        Rider copy() {
            try {
                return (Rider) clone();
            } catch (CloneNotSupportedException e) {
                throw new AssertionError(e);
            }
        }
    }

    private record Booking(int time, int ring, int rider) { }

    private record Fall(int time, int rider, int horse) { }

    private static final class State {
        int time;
        int[] settings = {3, 12, 5, 20, 3};
        List<Horse> horses = new ArrayList<>();
        List<Rider> riders = new ArrayList<>();
        List<Booking> bookings = new ArrayList<>();
        List<Fall> falls = new ArrayList<>();

        State copy() {
            State copy = new State();
            copy.time = time;
            copy.settings = settings.clone();
            horses.forEach(h -> copy.horses.add(h.copy()));
            riders.forEach(r -> copy.riders.add(r.copy()));
            copy.bookings.addAll(bookings);
            copy.falls.addAll(falls);
            return copy;
        }

        Optional<Horse> farriers() {
            if (time / 10 % settings[4] != 0) {
                return Optional.empty();
            }
            return horses.stream().filter(h -> h.worn >= 1)
                    .min(Comparator.comparingInt((Horse h) -> -h.worn).thenComparingInt(h -> h.number));
        }

        int reason(Horse horse, Rider rider) {
            if (horse.lame > 0) {
                return 1;
            }
            if (farriers().filter(h -> h == horse).isPresent()) {
                return 2;
            }
            if (horse.worn >= settings[1]) {
                return 3;
            }
            if (horse.tiredness >= settings[0]) {
                return 4;
            }
            return horse.strength >= rider.weight ? 0 : 5;
        }

        Optional<Horse> best(Rider rider, Set<Horse> taken) {
            return horses.stream().filter(h -> !taken.contains(h) && reason(h, rider) == 0)
                    .min(Comparator.comparing((Horse h) -> h.temper > rider.ability())
                            .thenComparingInt(h -> h.tiredness)
                            .thenComparingInt(h -> h.strength)
                            .thenComparingInt(h -> h.number));
        }

        int hour(boolean lessons) {
            Optional<Horse> farriers = farriers();
            Set<Horse> lameAhead = new HashSet<>();
            horses.stream().filter(h -> h.lame > 0).forEach(lameAhead::add);
            Set<Horse> taken = new HashSet<>();
            if (lessons) {
                for (Booking booking : bookings.stream().filter(b -> b.time == time).toList()) {
                    ride(riders.get(booking.rider), taken);
                }
                bookings.removeIf(b -> b.time == time);
            }
            for (Horse horse : horses) {
                if (taken.contains(horse)) {
                    horse.tiredness++;
                    horse.worn++;
                } else if (horse.tiredness > 0) {
                    horse.tiredness--;
                }
            }
            lameAhead.forEach(h -> h.lame--);
            farriers.ifPresent(h -> h.worn = 0);
            farriers.ifPresent(h -> h.shod++);
            if (time % 10 == 9) {
                horses.forEach(h -> h.tiredness = h.tiredness < 8 ? 0 : h.tiredness - 8);
            }
            time++;
            return taken.size();
        }

        private void ride(Rider rider, Set<Horse> taken) {
            Optional<Horse> best = best(rider, taken);
            if (best.isEmpty()) {
                rider.leftOut++;
                return;
            }
            Horse horse = best.get();
            taken.add(horse);
            horse.taken++;
            rider.rides++;
            rider.latest = horse.number;
            if (horse.temper > rider.ability()) {
                rider.fear = rider.fear == 9 ? 9 : rider.fear + 1;
                rider.row = 0;
                rider.falls++;
                horse.threw++;
                falls.add(0, new Fall(time, rider.number, horse.number));
            } else {
                rider.fear = rider.fear == 0 ? 0 : rider.fear - 1;
                rider.row++;
                if (rider.row % 3 == 0 && rider.skill < 9) {
                    rider.skill++;
                }
            }
            if (rider.weight + settings[2] > horse.strength && ++horse.strains == 3) {
                horse.strains = 0;
                horse.lame = settings[3];
            }
        }

        int bookingError(int hours, int ring, int rider) {
            if (bookings.stream().anyMatch(b -> b.time == time + hours && b.rider == rider)) {
                return NOT_POSSIBLE;
            }
            return booked(hours, ring) == ROOMS[ring] || bookings.size() == 40 ? FULL : 0;
        }

        int booked(int hours, int ring) {
            return (int) bookings.stream().filter(b -> b.time == time + hours && b.ring == ring).count();
        }
    }

    private State state = new State();
    private State snapshot;
    private final Deque<State> history = new ArrayDeque<>();
    private String text = "";

    Model() {
        for (int i = 0; i < 10; i++) {
            Horse horse = new Horse();
            horse.number = i;
            horse.strength = 80 + 5 * i;
            horse.temper = i % 4;
            state.horses.add(horse);
        }
        for (int i = 0; i < 12; i++) {
            Rider rider = new Rider();
            rider.number = i;
            rider.weight = 40 + 6 * i;
            rider.skill = 1;
            rider.latest = NONE;
            state.riders.add(rider);
        }
    }

    private static boolean in(int value, int least, int most) {
        return least <= value && value <= most;
    }

    private void record() {
        history.addLast(state.copy());
        if (history.size() > 4) {
            history.removeFirst();
        }
    }

    int setHorse(int number, int strength, int temper) {
        if (!in(number, 0, 9)) {
            return UNKNOWN;
        }
        if (!in(strength, 20, 150) || !in(temper, 0, 9)) {
            return BAD_VALUE;
        }
        Horse old = state.horses.get(number);
        if (old.strength == strength && old.temper == temper) {
            return NONE;
        }
        record();
        int previous = old.strength;
        old.strength = strength;
        old.temper = temper;
        return previous;
    }

    int setRider(int number, int weight, int skill) {
        if (!in(number, 0, 11)) {
            return UNKNOWN;
        }
        if (!in(weight, 20, 150) || !in(skill, 0, 9)) {
            return BAD_VALUE;
        }
        record();
        Rider rider = state.riders.get(number);
        int previous = rider.weight;
        rider.weight = weight;
        rider.skill = skill;
        rider.fear = 0;
        rider.row = 0;
        return previous;
    }

    int set(int which, int value) {
        if (!in(which, 0, 4)) {
            return UNKNOWN;
        }
        if (!in(value, RANGES[which][0], RANGES[which][1])) {
            return BAD_VALUE;
        }
        if (state.settings[which] == value) {
            return NONE;
        }
        record();
        int previous = state.settings[which];
        state.settings[which] = value;
        return previous;
    }

    int book(int hours, int ring, int rider) {
        if (!in(ring, 0, 2) || !in(rider, 0, 11)) {
            return UNKNOWN;
        }
        if (!in(hours, 0, 99)) {
            return BAD_VALUE;
        }
        int error = state.bookingError(hours, ring, rider);
        if (error < 0) {
            return error;
        }
        record();
        state.bookings.add(new Booking(state.time + hours, ring, rider));
        return state.booked(hours, ring);
    }

    int cancel(int hours, int rider) {
        if (!in(rider, 0, 11)) {
            return UNKNOWN;
        }
        if (!in(hours, 0, 99)) {
            return BAD_VALUE;
        }
        for (Booking booking : state.bookings) {
            if (booking.time == state.time + hours && booking.rider == rider) {
                record();
                state.bookings.remove(booking);
                return booking.ring;
            }
        }
        return NONE;
    }

    int pass(int hours) {
        if (!in(hours, 1, 99)) {
            return BAD_VALUE;
        }
        if (state.time + hours > 9999) {
            return FULL;
        }
        record();
        int rode = 0;
        for (int i = 0; i < hours; i++) {
            rode += state.hour(true);
        }
        return rode;
    }

    int type(char character) {
        if (text.length() == 60) {
            return FULL;
        }
        text += character;
        return text.length();
    }

    int clearText() {
        int length = text.length();
        text = "";
        return length;
    }

    /** The longest beginning that some plan has tells the fault. */
    private int fault() {
        for (int end = 1; end <= text.length(); end++) {
            Matcher matcher = PLAN.matcher(text.substring(0, end));
            if (!matcher.matches() && !matcher.hitEnd()) {
                return end - 1;
            }
        }
        return PLAN.matcher(text).matches() ? NONE : text.length();
    }

    int bookPlan() {
        int fault = fault();
        if (fault != NONE) {
            return -100 - fault;
        }
        State before = state.copy();
        int riders = 0;
        for (String booking : text.split(";")) {
            String[] parts = booking.substring(1).split("[/:]");
            for (String rider : parts[2].split(",")) {
                int hours = Integer.parseInt(parts[0]);
                int ring = Integer.parseInt(parts[1]);
                int error = state.bookingError(hours, ring, Integer.parseInt(rider));
                if (error < 0) {
                    state = before;
                    return error;
                }
                state.bookings.add(new Booking(state.time + hours, ring, Integer.parseInt(rider)));
                riders++;
            }
        }
        State after = state;
        state = before;
        record();
        state = after;
        return riders;
    }

    int undo() {
        if (history.isEmpty()) {
            return NONE;
        }
        state = history.removeLast();
        return history.size();
    }

    int keep() {
        snapshot = state.copy();
        return state.time;
    }

    int restore() {
        if (snapshot == null) {
            return NONE;
        }
        record();
        state = snapshot.copy();
        return state.time;
    }

    int horse(int number, int what) {
        if (!in(number, 0, 9)) {
            return UNKNOWN;
        }
        Horse h = state.horses.get(number);
        int[] facts = {h.strength, h.temper, h.tiredness, h.worn, h.strains, h.lame, h.taken, h.threw, h.shod};
        return in(what, 0, 8) ? facts[what] : BAD_VALUE;
    }

    int rider(int number, int what) {
        if (!in(number, 0, 11)) {
            return UNKNOWN;
        }
        Rider r = state.riders.get(number);
        int waiting = (int) state.bookings.stream().filter(b -> b.rider == number).count();
        int[] facts = {r.weight, r.skill, r.fear, r.ability(), r.row, r.rides, r.falls, r.leftOut, waiting, r.latest};
        return in(what, 0, 9) ? facts[what] : BAD_VALUE;
    }

    int lesson(int hours, int ring, int what) {
        if (!in(ring, 0, 2)) {
            return UNKNOWN;
        }
        if (!in(hours, 0, 99) || !in(what, 0, 2)) {
            return BAD_VALUE;
        }
        int set = state.bookings.stream().filter(b -> b.time == state.time + hours && b.ring == ring)
                .mapToInt(b -> 1 << b.rider).sum();
        int booked = state.booked(hours, ring);
        return new int[] {booked, ROOMS[ring] - booked, set}[what];
    }

    int fall(int rank, int what) {
        if (rank < 0 || !in(what, 0, 2)) {
            return BAD_VALUE;
        }
        if (rank >= 20 || rank >= state.falls.size()) {
            return NONE;
        }
        Fall fall = state.falls.get(rank);
        return new int[] {fall.time, fall.rider, fall.horse}[what];
    }

    int reason(int horse, int rider) {
        if (!in(horse, 0, 9) || !in(rider, 0, 11)) {
            return UNKNOWN;
        }
        return state.reason(state.horses.get(horse), state.riders.get(rider));
    }

    int best(int rider) {
        if (!in(rider, 0, 11)) {
            return UNKNOWN;
        }
        return state.best(state.riders.get(rider), new HashSet<>()).map(h -> h.number).orElse(NONE);
    }

    int takenIn(int horse, int rider) {
        if (!in(horse, 0, 9) || !in(rider, 0, 11)) {
            return UNKNOWN;
        }
        State ahead = state.copy();
        for (int hours = 0; hours <= 200; hours++) {
            if (ahead.reason(ahead.horses.get(horse), ahead.riders.get(rider)) == 0) {
                return hours;
            }
            ahead.hour(false);
        }
        return NONE;
    }

    int ifPassed(int hours, int what) {
        if (!in(hours, 1, 99) || !in(what, 0, 3)) {
            return BAD_VALUE;
        }
        State ahead = state.copy();
        int rode = IntStream.range(0, hours).map(i -> ahead.hour(true)).sum();
        int leftOut = ahead.riders.stream().mapToInt(r -> r.leftOut - state.riders.get(r.number).leftOut).sum();
        int fell = ahead.falls.size() - state.falls.size();
        int lame = (int) ahead.horses.stream().filter(h -> h.lame > 0).count();
        return new int[] {rode, leftOut, fell, lame}[what];
    }

    int busiest() {
        int[] booked = new int[100];
        state.bookings.forEach(b -> booked[b.time - state.time]++);
        return IntStream.range(0, 100).filter(i -> booked[i] > 0).boxed()
                .min(Comparator.comparingInt((Integer i) -> -booked[i]).thenComparingInt(i -> i)).orElse(NONE);
    }

    int count(int what) {
        int rides = state.riders.stream().mapToInt(r -> r.rides).sum();
        int leftOut = state.riders.stream().mapToInt(r -> r.leftOut).sum();
        int lame = (int) state.horses.stream().filter(h -> h.lame > 0).count();
        int shod = state.horses.stream().mapToInt(h -> h.shod).sum();
        int tired = state.horses.stream().mapToInt(h -> h.tiredness).sum();
        int there = state.time / 10 % state.settings[4] == 0 ? 1 : 0;
        int[] s = state.settings;
        int[] counts = {state.time, state.time / 10, state.time % 10, state.bookings.size(), rides,
                state.falls.size(), leftOut, lame, shod, tired, there, state.farriers().map(h -> h.number).orElse(NONE),
                s[0], s[1], s[2], s[3], s[4], history.size(), text.length()};
        return in(what, 0, 18) ? counts[what] : BAD_VALUE;
    }
}
