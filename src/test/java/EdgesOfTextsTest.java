/** The edges that the document names under "Texts" and in the promises 8 to 10, sentence by sentence. */
public final class EdgesOfTextsTest {
    private static final Due due = new Due("EdgesOfTextsTest");

    public static void main(String[] args) {
        atMost60Characters();
        emptyAtFirst();
        anyCharacter();
        lengthThatItHad();
        numbersInTheirRanges();
        hoursFromNowOn();
        oneOrMoreRiders();
        bookingsWithSemicolonsBetween();
        noZeroInFront();
        noDigitByWhichANumberWouldBeGreater();
        eachCharacterAtEachPlace();
        firstFaultCounts();
        endsTooEarly();
        faultAheadOfTheErrorsOfBook();
        firstErrorOfBook();
        allOrNone();
        oneAct();
        theTextStays();
        fullText();
        due.finish();
    }

    private static void atMost60Characters() {
        due.sentence("There is a text of at most 60 characters");
        LessonHorses stable = new LessonHorses();
        for (int length = 1; length <= 60; length++) {
            due.is("type of the character " + length, stable.type(';'), length);
        }
        for (char character : new char[] {';', '+', 0, 255, 0xFFFF}) {
            due.is("type of the character 61", stable.type(character), Given.FULL);
            due.is("count(18)", stable.count(18), 60);
        }
        due.is("clearText()", stable.clearText(), 60);
        due.is("there is room again", stable.type('+'), 1);
        due.is("what was there is gone", stable.bookPlan(), -101);
    }

    private static void emptyAtFirst() {
        due.sentence("There is a text of at most 60 characters, empty at first.");
        due.is("count(18)", new LessonHorses().count(18), 0);
        due.is("clearText()", new LessonHorses().clearText(), 0);
        due.is("bookPlan()", new LessonHorses().bookPlan(), -100);
        due.is("type('+')", new LessonHorses().type('+'), 1);
    }

    private static void anyCharacter() {
        due.sentence("`character`: any character");
        LessonHorses stable = new LessonHorses();
        int length = 0;
        for (char character : new char[] {0, 1, ' ', '~', 127, 128, 255, 256, 0xD800, 0xFFFE, 0xFFFF}) {
            length++;
            due.is("type of " + (int) character, stable.type(character), length);
        }
        // The lower bytes, and the lower seven bits, of these are those of the plan's own characters.
        for (int more : new int[] {128, 256, 512, 4096, 0x8000, 0xFF00}) {
            String plan = "+5/0:1";
            for (int index = 0; index < plan.length(); index++) {
                char other = (char) (plan.charAt(index) + more);
                fault(plan.substring(0, index) + other + plan.substring(index + 1), index);
            }
        }
    }

    private static LessonHorses typed(String text) {
        LessonHorses stable = new LessonHorses();
        Given.type(stable, text);
        return stable;
    }

    private static void fault(String text, int index) {
        due.is("bookPlan() of \"" + text + "\"", typed(text).bookPlan(), -100 - index);
    }

    private static void books(String text, int riders) {
        due.is("bookPlan() of \"" + text + "\"", typed(text).bookPlan(), riders);
    }

    private static void lengthThatItHad() {
        due.sentence("Returns the length that it had.");
        LessonHorses stable = new LessonHorses();
        for (int length : new int[] {0, 1, 59, 60}) {
            for (int index = 0; index < length; index++) {
                stable.type('0');
            }
            due.is("clearText() of " + length, stable.clearText(), length);
            due.is("count(18)", stable.count(18), 0);
            due.is("clearText() again", stable.clearText(), 0);
        }
    }

    private static void numbersInTheirRanges() {
        due.sentence("a booking is \"+\" and hours (0 to 99; how many hours from now on), \"/\" and a ring (0 to 2), "
                + "\":\" and one or more riders with \",\" between two (0 to 11).");
        for (int hours = 0; hours <= 120; hours++) {
            if (hours <= 99) {
                LessonHorses stable = typed("+" + hours + "/0:0");
                due.is("bookPlan() with the hours " + hours, stable.bookPlan(), 1);
                due.is("booked in " + hours, stable.lesson(hours, 0, 2), 1);
            } else {
                fault("+" + hours + "/0:0", 3);
            }
        }
        for (int ring = 0; ring <= 9; ring++) {
            if (ring <= 2) {
                LessonHorses stable = typed("+0/" + ring + ":0");
                due.is("bookPlan() with the ring " + ring, stable.bookPlan(), 1);
                due.is("booked in " + ring, stable.lesson(0, ring, 2), 1);
            } else {
                fault("+0/" + ring + ":0", 3);
            }
        }
        for (int rider = 0; rider <= 30; rider++) {
            if (rider <= 11) {
                LessonHorses stable = typed("+0/0:" + rider);
                due.is("bookPlan() with the rider " + rider, stable.bookPlan(), 1);
                due.is("booked", stable.lesson(0, 0, 2), 1 << rider);
            } else {
                fault("+0/0:" + rider, 6);
            }
        }
    }

    private static void hoursFromNowOn() {
        due.sentence("how many hours from now on");
        LessonHorses stable = new LessonHorses();
        stable.pass(99);
        Given.type(stable, "+0/0:3;+99/1:4");
        due.is("bookPlan()", stable.bookPlan(), 2);
        due.is("the hour that comes next", stable.lesson(0, 0, 2), 8);
        due.is("99 hours from now on", stable.lesson(99, 1, 2), 16);
        due.is("pass(1)", stable.pass(1), 1);
        due.is("98 hours from then on", stable.lesson(98, 1, 2), 16);
    }

    private static void oneOrMoreRiders() {
        due.sentence("one or more riders with \",\" between two");
        fault("+5/0:", 5);
        fault("+5/0:,", 5);
        fault("+5/0:,1", 5);
        fault("+5/0:;", 5);
        fault("+5/0:;+6/0:1", 5);
        books("+5/0:1", 1);
        books("+5/0:1,2", 2);
        books("+5/0:1,2,3,4", 4);
        fault("+5/0:1,", 7);
        fault("+5/0:1,,2", 7);
        fault("+5/0:1,;", 7);
        fault("+5/0:1 2", 6);
        fault("+5/0:1.2", 6);
    }

    private static void bookingsWithSemicolonsBetween() {
        due.sentence("A plan is a text: bookings with \";\" between two");
        fault(";+5/0:1", 0);
        fault("+5/0:1;", 7);
        fault("+5/0:1;;+6/0:1", 7);
        fault("+5/0:1;+6/0:1;", 14);
        fault("+5/0:1+6/0:1", 6);
        fault("+5/0:1,+6/0:1", 7);
        fault("+5;/0:1", 2);
        fault("+5/0;:1", 4);
        books("+5/0:1;+6/0:1", 2);
        books("+5/0:1;+6/0:1;+7/0:1", 3);
    }

    private static void noZeroInFront() {
        due.sentence("Numbers have no zero in front, unless they are the single digit 0");
        books("+0/0:0", 1);
        fault("+00/0:0", 2);
        fault("+01/0:0", 2);
        fault("+09/0:0", 2);
        fault("+0/00:0", 4);
        fault("+0/01:0", 4);
        fault("+0/0:00", 6);
        fault("+0/0:01", 6);
        fault("+0/0:011", 6);
        fault("+0/0:1,00", 8);
        fault("+0/0:1,02", 8);
        fault("+0/0:1;+02/0:1", 9);
        books("+10/0:10", 1);
        books("+90/0:0,10", 2);
    }

    private static void noDigitByWhichANumberWouldBeGreater() {
        due.sentence("a digit by which a number would be greater than told is not allowed.");
        books("+99/0:0", 1);
        fault("+100/0:0", 3);
        fault("+990/0:0", 3);
        fault("+999/0:0", 3);
        books("+0/2:0", 1);
        fault("+0/3:0", 3);
        fault("+0/9:0", 3);
        fault("+0/10:0", 4);
        fault("+0/20:0", 4);
        books("+0/0:11", 1);
        fault("+0/0:12", 6);
        fault("+0/0:19", 6);
        fault("+0/0:20", 6);
        fault("+0/0:90", 6);
        fault("+0/0:110", 7);
        fault("+0/0:100", 7);
        fault("+0/0:1,12", 8);
        fault("+0/0:11,12", 9);
        // Two digits more than are read of them would wrap an int around.
        fault("+4294967296/0:0", 3);
        fault("+0/4294967296:0", 3);
        fault("+0/0:4294967296", 6);
        fault("+0/0:18446744073709551617", 6);
    }

    private static void eachCharacterAtEachPlace() {
        due.sentence("The fault of the text is the index, from 0, of the first character that is not allowed at its place");
        String[][] places = {
            {"", "+"}, {"+", "0123456789"}, {"+0", "/"}, {"+1", "0123456789/"}, {"+9", "0123456789/"}, {"+10", "/"},
            {"+99", "/"}, {"+5/", "012"}, {"+5/0", ":"}, {"+5/1", ":"}, {"+5/2", ":"}, {"+5/0:", "0123456789"},
            {"+5/0:0", ",;"}, {"+5/0:1", "01,;"}, {"+5/0:2", ",;"}, {"+5/0:9", ",;"}, {"+5/0:10", ",;"},
            {"+5/0:11", ",;"}, {"+5/0:1,", "0123456789"}, {"+5/0:2,0", ",;"}, {"+5/0:2,1", "01,;"},
            {"+5/0:2,11", ",;"}, {"+5/0:1;", "+"}, {"+5/0:1;+", "0123456789"}, {"+5/0:1;+6/1:1", "01,;"}};
        for (String[] place : places) {
            for (int character = 0; character < 300; character++) {
                String text = place[0] + (char) character;
                boolean isAllowed = place[1].indexOf(character) >= 0;
                int answer = typed(text).bookPlan();
                String call = "bookPlan() of " + place[0] + " and the character " + character;
                if (isAllowed) {
                    due.holds(call + " has no fault there: " + answer, answer > -100 || answer == -100 - text.length());
                } else {
                    due.is(call, answer, -100 - place[0].length());
                }
            }
        }
    }

    private static void firstFaultCounts() {
        due.sentence("of the first character that is not allowed at its place");
        fault("xx", 0);
        fault("+x/x:x", 1);
        fault("+5/0:1;x;x", 7);
        fault("+5/9:99;", 3);
        fault("+5/0:1,x", 7);
        fault(" +5/0:1", 0);
        fault("+5/0:1 ", 6);
        fault("+5/0:1\n", 6);
    }

    private static void endsTooEarly() {
        due.sentence("or the length of the text if it ends too early (the empty text does).");
        String plan = "+10/2:11,0;+99/0:7";
        for (int length = 0; length < plan.length(); length++) {
            boolean isWhole = length == 7 || length == 8 || length == 10;
            if (isWhole) {
                books(plan.substring(0, length), length == 10 ? 2 : 1);
            } else {
                fault(plan.substring(0, length), length);
            }
        }
        books(plan, 3);
    }

    private static void faultAheadOfTheErrorsOfBook() {
        due.sentence("Returns how many riders the plan has; -100 minus the fault of the text if it has one (which is an "
                + "error); otherwise the error that book() returns");
        LessonHorses stable = new LessonHorses();
        stable.book(5, 2, 1);
        Given.type(stable, "+5/2:1;");
        due.is("a fault behind a rider who is booked already", stable.bookPlan(), -107);
        Given.type(stable, "+5/2:1");
        due.is("no fault, but booked already", stable.bookPlan(), Given.NOT_POSSIBLE);
        Given.type(stable, "+5/2:2,3,4,x");
        due.is("a fault behind a full ring", stable.bookPlan(), -111);
        Given.type(stable, "+5/2:2,3,4");
        due.is("no fault, but a full ring", stable.bookPlan(), Given.FULL);
    }

    private static void firstErrorOfBook() {
        due.sentence("otherwise the error that book() returns for the first one that has one when its turn comes.");
        LessonHorses stable = new LessonHorses();
        Given.type(stable, "+5/2:0,1,2;+5/2:0");
        due.is("the ring is full ahead of the rider twice", stable.bookPlan(), Given.FULL);
        Given.type(stable, "+5/2:0,1,0,2");
        due.is("the rider twice, when the ring is full", stable.bookPlan(), Given.NOT_POSSIBLE);
        Given.type(stable, "+5/2:0;+5/1:0;+5/2:1,2,3");
        due.is("the rider twice, ahead of the full ring", stable.bookPlan(), Given.NOT_POSSIBLE);
        Given.type(stable, "+5/2:0;+6/2:0;+5/2:1;+6/2:1");
        due.is("rings to the brim", stable.bookPlan(), 4);
        LessonHorses forty = Given.fortyBookings();
        forty.undo();
        Given.type(forty, "+50/0:1,2;+0/0:0");
        due.is("the booking 41 ahead of the rider twice", forty.bookPlan(), Given.FULL);
        Given.type(forty, "+50/0:1,1");
        due.is("the rider twice as the booking 41", forty.bookPlan(), Given.NOT_POSSIBLE);
        Given.type(forty, "+50/0:1");
        due.is("the booking 40", forty.bookPlan(), 1);
        due.is("none more", forty.book(51, 0, 1), Given.FULL);
    }

    private static void allOrNone() {
        due.sentence("Makes all bookings of the plan of the text, which stays, one rider after the other; all of them or "
                + "none.");
        LessonHorses stable = new LessonHorses();
        Given.type(stable, "+5/0:0,1,2,3,4");
        due.is("five for a room of four", stable.bookPlan(), Given.FULL);
        due.is("none is booked", stable.count(3), 0);
        Given.type(stable, "+5/0:0,1,2,3");
        due.is("four for a room of four", stable.bookPlan(), 4);
        Given.type(stable, "+6/0:0,1,2,3;+5/1:3");
        due.is("the last one is booked already", stable.bookPlan(), Given.NOT_POSSIBLE);
        due.is("none is booked more", stable.count(3), 4);
        due.is("nor told of", stable.lesson(6, 0, 2), 0);
    }

    private static void oneAct() {
        due.sentence("This is one act.");
        LessonHorses stable = new LessonHorses();
        Given.type(stable, "+0/0:0,1,2,3;+0/1:4,5,6;+0/2:7,8");
        due.is("bookPlan()", stable.bookPlan(), 9);
        due.is("one state", stable.count(17), 1);
        due.is("undo()", stable.undo(), 0);
        due.is("none is booked", stable.count(3), 0);
    }

    private static void theTextStays() {
        due.sentence("the plan of the text, which stays");
        LessonHorses stable = new LessonHorses();
        for (String text : new String[] {"+0/0:0", "+0/0:0,", "+1/0:1,1", ""}) {
            Given.type(stable, text);
            int first = stable.bookPlan();
            due.is("count(18) behind bookPlan() of " + text, stable.count(18), text.length());
            int second = stable.bookPlan();
            due.is("bookPlan() again of " + text, second, first == 1 ? Given.NOT_POSSIBLE : first);
            due.is("clearText() behind", stable.clearText(), text.length());
        }
    }

    private static void fullText() {
        due.sentence("FULL if it has 60 characters.");
        String plan = "+0/0:0,1,2,3;+1/0:0,1,2,3;+2/0:0,1,2,3;+3/0:0,1,2,3;+4/0:0,1";
        LessonHorses stable = typed(plan);
        due.is("clearText() of a full plan", stable.clearText(), 60);
        for (int index = 0; index < 60; index++) {
            due.is("type", stable.type(plan.charAt(index)), index + 1);
        }
        for (char character : new char[] {',', '5', ';', 'x'}) {
            due.is("type behind", stable.type(character), Given.FULL);
        }
        due.is("bookPlan() of a full text", stable.bookPlan(), 18);
        due.is("the last one is booked", stable.lesson(4, 0, 2), 3);
        fault(plan.substring(0, 59), 59);
        fault(plan.substring(0, 59) + "x", 59);
        fault(plan.substring(0, 58) + "1,", 58);
        fault(plan.substring(0, 58) + ";+", 60);
        fault(plan.substring(0, 59) + ";", 59);
    }
}
