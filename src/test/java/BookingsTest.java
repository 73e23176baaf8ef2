/** Promises 5, 6, 16 and 22: book, cancel, lesson, busiest. */
public final class BookingsTest {
    private static final int UNKNOWN = -1;
    private static final int BAD_VALUE = -2;
    private static final int FULL = -3;
    private static final int NOT_POSSIBLE = -4;
    private static final int NONE = -5;
    private static final int LEAST = Integer.MIN_VALUE;
    private static final int MOST = Integer.MAX_VALUE;

    private static final Due due = new Due("BookingsTest");

    public static void main(String[] args) {
        promise5RoomsOfTheRings();
        promise5OneBookingATime();
        promise5FortyWait();
        promise5WrongInputs();
        promise5HoursFromNow();
        promise6Cancel();
        promise6WrongInputs();
        promise6KeepsTheOrder();
        promise16Lesson();
        promise16WrongInputs();
        promise22Busiest();
        promise22PassesWithTheTime();
        due.finish();
    }

    private static void promise5RoomsOfTheRings() {
        LessonHorses stable = new LessonHorses();
        int[] rooms = {4, 3, 2};
        int rider = 0;
        for (int ring = 0; ring < 3; ring++) {
            for (int booked = 1; booked <= rooms[ring]; booked++) {
                due.is("book(7, " + ring + ", " + rider + ")", stable.book(7, ring, rider), booked);
                rider++;
            }
            due.is("one too many in ring " + ring, stable.book(7, ring, 11), FULL);
        }
        due.is("bookings", stable.count(3), 9);
        due.is("history", stable.count(17), 4);
        due.is("another hour has room", stable.book(8, 0, 11), 1);
        due.is("another hour, the same rider", stable.book(6, 2, 0), 1);
    }

    private static void promise5OneBookingATime() {
        LessonHorses stable = new LessonHorses();
        due.is("book(0, 2, 0)", stable.book(0, 2, 0), 1);
        due.is("book(0, 2, 0) again", stable.book(0, 2, 0), NOT_POSSIBLE);
        due.is("book(0, 1, 0)", stable.book(0, 1, 0), NOT_POSSIBLE);
        due.is("book(0, 2, 1)", stable.book(0, 2, 1), 2);
        due.is("NOT_POSSIBLE ahead of FULL", stable.book(0, 2, 0), NOT_POSSIBLE);
        due.is("book(0, 2, 2)", stable.book(0, 2, 2), FULL);
        due.is("book(1, 2, 0)", stable.book(1, 2, 0), 1);
        due.is("bookings", stable.count(3), 3);
        due.is("history", stable.count(17), 3);
        due.is("undo()", stable.undo(), 2);
        due.is("bookings behind undo", stable.count(3), 2);
        due.is("lesson(1, 2, 2) behind undo", stable.lesson(1, 2, 2), 0);
    }

    private static void promise5FortyWait() {
        LessonHorses stable = new LessonHorses();
        for (int made = 0; made < 40; made++) {
            due.is("booking " + made, stable.book(99 - made % 20, made / 20, 3 + made / 20), 1);
        }
        due.is("bookings", stable.count(3), 40);
        due.is("the booking 41", stable.book(0, 0, 0), FULL);
        due.is("NOT_POSSIBLE ahead of FULL", stable.book(99, 2, 3), NOT_POSSIBLE);
        due.is("bookings", stable.count(3), 40);
        due.is("cancel(80, 4)", stable.cancel(80, 4), 1);
        due.is("there is room again", stable.book(0, 0, 0), 1);
        due.is("no more", stable.book(0, 0, 1), FULL);
        due.is("the hour is ridden", stable.pass(1), 1);
        due.is("there is room again", stable.book(0, 0, 1), 1);
        due.is("bookings", stable.count(3), 40);
    }

    private static void promise5WrongInputs() {
        LessonHorses stable = new LessonHorses();
        for (int ring : new int[] {-1, 3, LEAST, MOST}) {
            due.is("book(0, " + ring + ", 0)", stable.book(0, ring, 0), UNKNOWN);
            due.is("book(100, " + ring + ", 0)", stable.book(100, ring, 0), UNKNOWN);
        }
        for (int rider : new int[] {-1, 12, LEAST, MOST}) {
            due.is("book(0, 0, " + rider + ")", stable.book(0, 0, rider), UNKNOWN);
            due.is("book(-1, 0, " + rider + ")", stable.book(-1, 0, rider), UNKNOWN);
        }
        for (int hours : new int[] {-1, 100, LEAST, MOST}) {
            due.is("book(" + hours + ", 0, 0)", stable.book(hours, 0, 0), BAD_VALUE);
        }
        due.is("bookings", stable.count(3), 0);
        due.is("history", stable.count(17), 0);
    }

    private static void promise5HoursFromNow() {
        LessonHorses stable = new LessonHorses();
        due.is("book(99, 1, 5)", stable.book(99, 1, 5), 1);
        due.is("pass(30)", stable.pass(30), 0);
        due.is("riders 69 hours from now", stable.lesson(69, 1, 2), 32);
        due.is("riders 99 hours from now", stable.lesson(99, 1, 2), 0);
        due.is("book(69, 0, 5)", stable.book(69, 0, 5), NOT_POSSIBLE);
        due.is("book(99, 0, 5)", stable.book(99, 0, 5), 1);
        due.is("pass(70)", stable.pass(70), 1);
        due.is("bookings", stable.count(3), 1);
        due.is("riders 29 hours from now", stable.lesson(29, 0, 2), 32);
    }

    private static void promise6Cancel() {
        LessonHorses stable = new LessonHorses();
        stable.book(3, 1, 4);
        stable.book(3, 2, 5);
        stable.book(4, 0, 5);
        due.is("another hour", stable.cancel(2, 5), NONE);
        due.is("another rider", stable.cancel(3, 6), NONE);
        due.is("history behind NONE", stable.count(17), 3);
        due.is("cancel(3, 5)", stable.cancel(3, 5), 2);
        due.is("cancel(3, 5) again", stable.cancel(3, 5), NONE);
        due.is("history", stable.count(17), 4);
        due.is("bookings of the rider", stable.rider(5, 8), 1);
        due.is("cancel(4, 5)", stable.cancel(4, 5), 0);
        due.is("cancel(3, 4)", stable.cancel(3, 4), 1);
        due.is("bookings", stable.count(3), 0);
        due.is("undo()", stable.undo(), 3);
        due.is("lesson(3, 1, 2) behind undo", stable.lesson(3, 1, 2), 16);
    }

    private static void promise6WrongInputs() {
        LessonHorses stable = new LessonHorses();
        for (int rider : new int[] {-1, 12, LEAST, MOST}) {
            due.is("cancel(0, " + rider + ")", stable.cancel(0, rider), UNKNOWN);
            due.is("cancel(100, " + rider + ")", stable.cancel(100, rider), UNKNOWN);
        }
        for (int hours : new int[] {-1, 100, LEAST, MOST}) {
            due.is("cancel(" + hours + ", 0)", stable.cancel(hours, 0), BAD_VALUE);
        }
        due.is("cancel(99, 11)", stable.cancel(99, 11), NONE);
        due.is("history", stable.count(17), 0);
    }

    private static void promise6KeepsTheOrder() {
        LessonHorses stable = new LessonHorses();
        stable.book(0, 0, 3);
        stable.book(0, 1, 2);
        stable.book(0, 0, 1);
        stable.book(0, 1, 0);
        due.is("cancel(0, 2)", stable.cancel(0, 2), 1);
        due.is("book(0, 2, 2)", stable.book(0, 2, 2), 1);
        due.is("pass(1)", stable.pass(1), 4);
        // Gentle for them are 0, 1, 4, 5, by their strength, and they ride in the order 3, 1, 0, 2.
        due.is("horse of 3", stable.rider(3, 9), 0);
        due.is("horse of 1", stable.rider(1, 9), 1);
        due.is("horse of 0", stable.rider(0, 9), 4);
        due.is("horse of 2", stable.rider(2, 9), 5);
    }

    private static void promise16Lesson() {
        LessonHorses stable = new LessonHorses();
        stable.book(99, 0, 0);
        stable.book(99, 0, 11);
        stable.book(99, 0, 6);
        stable.book(99, 1, 7);
        stable.book(98, 0, 1);
        int[] booked = {3, 1, 0};
        int[] room = {1, 2, 2};
        int[] riders = {1 + 64 + 2048, 128, 0};
        for (int ring = 0; ring < 3; ring++) {
            due.is("lesson(99, " + ring + ", 0)", stable.lesson(99, ring, 0), booked[ring]);
            due.is("lesson(99, " + ring + ", 1)", stable.lesson(99, ring, 1), room[ring]);
            due.is("lesson(99, " + ring + ", 2)", stable.lesson(99, ring, 2), riders[ring]);
        }
        due.is("lesson(98, 0, 2)", stable.lesson(98, 0, 2), 2);
        due.is("lesson(97, 0, 1)", stable.lesson(97, 0, 1), 4);
        stable.book(99, 0, 2);
        due.is("no room", stable.lesson(99, 0, 1), 0);
    }

    private static void promise16WrongInputs() {
        LessonHorses stable = new LessonHorses();
        for (int ring : new int[] {-1, 3, LEAST, MOST}) {
            due.is("lesson(0, " + ring + ", 0)", stable.lesson(0, ring, 0), UNKNOWN);
            due.is("lesson(100, " + ring + ", 3)", stable.lesson(100, ring, 3), UNKNOWN);
        }
        for (int hours : new int[] {-1, 100, LEAST, MOST}) {
            due.is("lesson(" + hours + ", 0, 0)", stable.lesson(hours, 0, 0), BAD_VALUE);
        }
        for (int what : new int[] {-1, 3, LEAST, MOST}) {
            due.is("lesson(0, 0, " + what + ")", stable.lesson(0, 0, what), BAD_VALUE);
        }
    }

    private static void promise22Busiest() {
        LessonHorses stable = new LessonHorses();
        due.is("nobody", stable.busiest(), NONE);
        stable.book(99, 0, 0);
        due.is("the last hour", stable.busiest(), 99);
        stable.book(50, 1, 0);
        due.is("of several the first", stable.busiest(), 50);
        stable.book(70, 2, 3);
        due.is("of several the first still", stable.busiest(), 50);
        stable.book(99, 2, 1);
        due.is("two in different rings", stable.busiest(), 99);
        stable.book(0, 0, 0);
        stable.book(0, 0, 1);
        due.is("the hour that comes next", stable.busiest(), 0);
        stable.cancel(0, 1);
        due.is("behind cancel", stable.busiest(), 99);
        due.is("nothing is recorded", stable.undo(), 3);
    }

    private static void promise22PassesWithTheTime() {
        LessonHorses stable = new LessonHorses();
        stable.book(10, 0, 0);
        stable.book(10, 0, 1);
        stable.book(20, 0, 0);
        stable.pass(4);
        due.is("four hours later", stable.busiest(), 6);
        stable.pass(6);
        due.is("ten hours later", stable.busiest(), 0);
        stable.pass(1);
        due.is("eleven hours later", stable.busiest(), 9);
        stable.pass(10);
        due.is("all is ridden", stable.busiest(), NONE);
    }
}
