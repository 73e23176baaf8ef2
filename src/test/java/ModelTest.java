/** Long runs of mixed calls, each answer compared with that of the Model; the runs are the same each time. */
public final class ModelTest {
    private static final int RUNS = 400;
    // An object is used for at most 512 calls: these, and then the 300 or so that look at everything.
    private static final int MIXED_CALLS = 190;
    private static final int[] ODD = {-1, 10, 12, 3, 5, 100, 151, 60, Integer.MIN_VALUE, Integer.MAX_VALUE};

    private static final Due due = new Due("ModelTest");

    private final LessonHorses stable = new LessonHorses();
    private final Model model = new Model();
    private final String run;
    private final int style;
    private long seed;
    private int calls;

    private ModelTest(int number) {
        run = "run " + number;
        style = number % 5;
        seed = number * 7919L + 1;
    }

    public static void main(String[] args) {
        for (int number = 0; number < RUNS; number++) {
            ModelTest test = new ModelTest(number);
            test.prepare();
            while (test.calls < MIXED_CALLS) {
                test.call(test.below(40));
            }
            test.lookAtAll();
            due.holds("run " + number + " stays within 512 calls", test.calls <= 512);
        }
        due.finish();
    }

    private int below(int bound) {
        seed = seed * 6364136223846793005L + 1442695040888963407L;
        return (int) ((seed >>> 33) % bound);
    }

    private void is(String call, int got, int want) {
        calls++;
        due.is(run + ", call " + calls + ": " + call, got, want);
    }

    /** Mostly a number from 0 on, now and then one that is out of range. */
    private int argument(int bound) {
        return below(25) == 0 ? ODD[below(ODD.length)] : below(bound);
    }

    /** Gives each style of run a stable in which other things happen often. */
    private void prepare() {
        if (style == 1) {
            tell("set", 2, 40 + below(11));
            tell("set", 3, 1 + below(30));
        }
        if (style == 2) {
            tell("set", 0, 9);
            tell("set", 1, 1 + below(4));
            tell("set", 4, 1 + below(9));
        }
        if (style == 3) {
            for (int horse = 0; horse < 10; horse++) {
                int strength = 80 + below(20);
                int temper = 3 + below(7);
                is("setHorse", stable.setHorse(horse, strength, temper), model.setHorse(horse, strength, temper));
            }
        }
        if (style == 4) {
            for (int passed = 0; passed < 101; passed++) {
                tell("pass", 99, 0);
            }
        }
    }

    private void tell(String call, int first, int second) {
        if (call.equals("set")) {
            is("set(" + first + ", " + second + ")", stable.set(first, second), model.set(first, second));
        } else {
            is("pass(" + first + ")", stable.pass(first), model.pass(first));
        }
    }

    private void call(int kind) {
        if (kind < 14) {
            int hours = below(8) == 0 ? argument(100) : argument(3);
            int ring = argument(3);
            int rider = argument(12);
            is("book(" + hours + ", " + ring + ", " + rider + ")",
                    stable.book(hours, ring, rider), model.book(hours, ring, rider));
        } else if (kind < 20) {
            tell("pass", below(6) == 0 ? argument(100) : argument(4), 0);
        } else if (kind < 22) {
            plan();
        } else if (kind < 26) {
            change(kind);
        } else if (kind < 29) {
            past(kind);
        } else {
            look(kind);
        }
    }

    private void change(int kind) {
        int first = argument(12);
        if (kind == 22) {
            int strength = argument(160);
            int temper = argument(10);
            is("setHorse(" + first + ", " + strength + ", " + temper + ")",
                    stable.setHorse(first, strength, temper), model.setHorse(first, strength, temper));
        } else if (kind == 23) {
            int weight = argument(160);
            int skill = argument(10);
            is("setRider(" + first + ", " + weight + ", " + skill + ")",
                    stable.setRider(first, weight, skill), model.setRider(first, weight, skill));
        } else if (kind == 24) {
            tell("set", argument(5), argument(20));
        } else {
            int hours = argument(4);
            is("cancel(" + hours + ", " + first + ")", stable.cancel(hours, first), model.cancel(hours, first));
        }
    }

    private void past(int kind) {
        if (kind == 26) {
            is("undo()", stable.undo(), model.undo());
        } else if (kind == 27 && below(2) == 0) {
            is("keep()", stable.keep(), model.keep());
        } else if (below(3) == 0) {
            is("restore()", stable.restore(), model.restore());
        }
    }

    private void plan() {
        if (below(3) > 0) {
            is("clearText()", stable.clearText(), model.clearText());
        }
        String plan = "";
        int bookings = 1 + below(3);
        for (int i = 0; i < bookings; i++) {
            plan += (i == 0 ? "+" : ";+") + below(below(4) == 0 ? 103 : 4) + "/" + below(below(9) == 0 ? 4 : 3) + ":";
            int riders = 1 + below(3);
            for (int j = 0; j < riders; j++) {
                plan += (j == 0 ? "" : ",") + below(below(6) == 0 ? 15 : 12);
            }
        }
        if (below(4) == 0) {
            int at = below(plan.length());
            plan = plan.substring(0, at) + "0123456789+/:;,x".charAt(below(16)) + plan.substring(at + below(2));
        }
        for (int i = 0; i < plan.length(); i++) {
            is("type of " + plan + " at " + i, stable.type(plan.charAt(i)), model.type(plan.charAt(i)));
        }
        is("bookPlan() of " + plan, stable.bookPlan(), model.bookPlan());
    }

    private void look(int kind) {
        int first = argument(12);
        int second = argument(12);
        int hours = argument(100);
        if (kind < 32) {
            is("takenIn(" + first + ", " + second + ")", stable.takenIn(first, second), model.takenIn(first, second));
        } else if (kind < 35) {
            int what = argument(4);
            is("ifPassed(" + hours + ", " + what + ")", stable.ifPassed(hours, what), model.ifPassed(hours, what));
        } else if (kind < 37) {
            is("reason(" + first + ", " + second + ")", stable.reason(first, second), model.reason(first, second));
        } else if (kind == 37) {
            is("best(" + first + ")", stable.best(first), model.best(first));
        } else if (kind == 38) {
            int ring = argument(3);
            int what = argument(3);
            is("lesson(" + hours + ", " + ring + ", " + what + ")",
                    stable.lesson(hours, ring, what), model.lesson(hours, ring, what));
        } else {
            is("busiest()", stable.busiest(), model.busiest());
            int what = argument(19);
            is("count(" + what + ")", stable.count(what), model.count(what));
            is("horse(" + first + ", " + what + ")", stable.horse(first, what), model.horse(first, what));
            is("rider(" + first + ", " + what + ")", stable.rider(first, what), model.rider(first, what));
            is("fall(" + first + ", " + what + ")", stable.fall(first, what), model.fall(first, what));
        }
    }

    private void lookAtAll() {
        for (int what = 0; what < 19; what++) {
            is("count(" + what + ")", stable.count(what), model.count(what));
        }
        for (int cell = 0; cell < 90; cell++) {
            is("horse(" + cell / 9 + ", " + cell % 9 + ")",
                    stable.horse(cell / 9, cell % 9), model.horse(cell / 9, cell % 9));
        }
        for (int cell = 0; cell < 120; cell++) {
            is("rider(" + cell / 10 + ", " + cell % 10 + ")",
                    stable.rider(cell / 10, cell % 10), model.rider(cell / 10, cell % 10));
        }
        for (int cell = 0; cell < 30; cell++) {
            is("fall(" + cell + ", " + cell % 3 + ")", stable.fall(cell, cell % 3), model.fall(cell, cell % 3));
        }
        for (int rider = 0; rider < 12; rider++) {
            is("best(" + rider + ")", stable.best(rider), model.best(rider));
        }
        for (int cell = 0; cell < 12; cell++) {
            is("lesson(" + cell / 3 + ", " + cell % 3 + ", 2)",
                    stable.lesson(cell / 3, cell % 3, 2), model.lesson(cell / 3, cell % 3, 2));
        }
        is("clearText()", stable.clearText(), model.clearText());
    }
}
