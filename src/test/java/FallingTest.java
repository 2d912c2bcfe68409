/** Promises 8 to 10: falls, isSafe, bad. */
public final class FallingTest {
    private static final int[] WRONG = {-1, 4, 10, Integer.MIN_VALUE, Integer.MAX_VALUE};

    private static final Check check = new Check();

    public static void main(String[] args) {
        wrongFunctions();
        onePlace();
        twoPlaces();
        throughOthers();
        safety();
        shortestRow();
        leastNumbers();
        longRow();
        full();
        check.end();
    }

    private static void wrongFunctions() {
        RecursionProofs x = Check.withFunctions(1, 2, 3, 4);
        x.call(0, 0, 0);
        for (int f : WRONG) {
            check.index("falls(" + f + ")", () -> x.falls(f) ? 1 : 0);
            check.index("isSafe(" + f + ")", () -> x.isSafe(f) ? 1 : 0);
            check.same("bad(" + f + ", -1)", x.bad(f, -1), -1);
            check.same("bad(" + f + ", 0)", x.bad(f, 0), -1);
        }
        check.same("bad(0, -1)", x.bad(0, -1), 1);
        check.same("bad(0, 0)", x.bad(0, 0), 0);
        for (int i : new int[] {1, -2, 800, Integer.MIN_VALUE, Integer.MAX_VALUE}) {
            check.same("bad(0, " + i + ")", x.bad(0, i), -1);
            check.same("bad(1, " + i + ")", x.bad(1, i), -1);
        }
    }

    private static void onePlace() {
        RecursionProofs x = Check.withFunctions(1);
        check.same("without calls", x.falls(0), true);
        check.same("without calls, bad", x.bad(0, -1), 0);
        x.call(0, 0, 2);
        check.same("less", x.falls(0), true);
        check.same("less, bad", x.bad(0, -1), 0);
        check.same("less, bad 0", x.bad(0, 0), -1);
        x.call(0, 0, 1);
        check.same("not greater", x.falls(0), false);
        check.same("not greater, bad", x.bad(0, 0), 1);
        x.undo();
        check.same("less again", x.falls(0), true);
        x.call(0, 0, 0);
        check.same("nothing known", x.falls(0), false);
    }

    private static void twoPlaces() {
        RecursionProofs x = Check.withFunctions(2);
        x.call(0, 0, Check.known("20", "00"));
        x.call(0, 0, Check.known("10", "02"));
        check.same("first, then second", x.falls(0), true);
        x.undo();
        x.call(0, 0, Check.known("00", "02"));
        check.same("one or the other", x.falls(0), false);
        check.same("one or the other, row", x.bad(0, -1), 2);
        check.same("one or the other, 0", x.bad(0, 0), 0);
        check.same("one or the other, 1", x.bad(0, 1), 1);
        check.same("one or the other, 2", x.bad(0, 2), -1);

        RecursionProofs y = Check.withFunctions(2);
        y.call(0, 0, Check.known("02", "10"));
        check.same("places change, one falls", y.falls(0), true);
        y.undo();
        y.call(0, 0, Check.known("01", "10"));
        check.same("places change, none falls", y.falls(0), false);
        check.same("a change is not its own square", y.bad(0, -1), 2);
        y.undo();
        y.call(0, 0, Check.known("02", "00"));
        check.same("2 but not to itself", y.falls(0), false);
        check.same("2 but not to itself, twice for nothing", y.bad(0, -1), 2);
    }

    private static void throughOthers() {
        RecursionProofs x = Check.withFunctions(1, 2, 3, 4);
        x.call(0, 1, Check.known("12"));
        x.call(1, 2, Check.known("010", "001"));
        x.call(2, 0, Check.known("0", "1", "1"));
        check.same("a ring that falls, 0", x.falls(0), true);
        check.same("a ring that falls, 1", x.falls(1), true);
        check.same("a ring that falls, 2", x.falls(2), true);
        x.call(2, 0, Check.known("0", "1", "0"));
        check.same("a ring that does not", x.falls(0), false);
        check.same("its row", x.bad(0, -1), 3);
        check.same("its row, 0", x.bad(0, 0), 0);
        check.same("its row, 1", x.bad(0, 1), 1);
        check.same("its row, 2", x.bad(0, 2), 3);
        check.same("from 2", x.bad(2, -1), 3);
        check.same("from 2, 0", x.bad(2, 0), 3);
        check.same("from 2, 1", x.bad(2, 1), 0);
        check.same("from 2, 2", x.bad(2, 2), 1);
        check.same("aside", x.falls(3), true);
    }

    private static void safety() {
        RecursionProofs x = Check.withFunctions(1, 1, 1, 1, 1);
        x.call(0, 1, 0);
        x.call(1, 2, 0);
        x.call(3, 3, 2);
        x.call(4, 3, 0);
        check.same("all fall", x.isSafe(0), true);
        check.same("no calls", x.isSafe(2), true);
        check.same("to one that falls", x.isSafe(4), true);
        x.call(2, 2, 1);
        check.same("0 falls itself", x.falls(0), true);
        check.same("0 reaches one that does not", x.isSafe(0), false);
        check.same("1 does too", x.isSafe(1), false);
        check.same("2 does not fall", x.isSafe(2), false);
        check.same("3 does not reach it", x.isSafe(3), true);
        x.call(3, 3, 0);
        check.same("3 does not fall", x.isSafe(3), false);
        check.same("4 reaches it", x.isSafe(4), false);

        RecursionProofs y = Check.withFunctions(1, 1);
        y.call(0, 0, 0);
        check.same("0 does not fall", y.isSafe(0), false);
        check.same("1 does not reach it", y.isSafe(1), true);
        y.call(1, 0, 2);
        check.same("1 reaches it", y.isSafe(1), false);
        check.same("a function made since", y.function(1), 2);
        check.same("it falls", y.falls(2), true);
        check.same("it is safe", y.isSafe(2), true);
        check.same("it has no bad row", y.bad(2, -1), 0);
    }

    /** All ten functions and all twenty calls, each function but the last going on for ever. */
    private static void full() {
        RecursionProofs x = Check.withFunctions(1, 1, 1, 1, 1, 1, 1, 1, 1, 1);
        for (int c = 0; c < 20; c++) {
            x.call(c / 2, c / 2, c < 18 ? 2 - c % 2 : 2);
        }
        for (int f = 0; f < 10; f++) {
            check.same("full: falls(" + f + ")", x.falls(f), f == 9);
            check.same("full: isSafe(" + f + ")", x.isSafe(f), f == 9);
            check.same("full: bad(" + f + ", -1)", x.bad(f, -1), f == 9 ? 0 : 1);
            check.same("full: bad(" + f + ", 0)", x.bad(f, 0), f == 9 ? -1 : 2 * f + 1);
            check.same("full: order(" + f + ", -1)", x.order(f, -1), f == 9 ? 1 : -1);
            check.same("full: reached(" + f + ")", x.reached(f), 1 << f);
            check.same("full: graphs(" + f + ", " + f + ")", x.graphs(f, f), f == 9 ? 1 : 2);
        }
        check.same("full: product(19, 1)", x.product(19, 1), 2);
    }

    private static void shortestRow() {
        RecursionProofs x = Check.withFunctions(1, 1);
        x.call(0, 1, 0);
        x.call(1, 0, 0);
        check.same("two calls", x.bad(0, -1), 2);
        x.call(0, 0, 2);
        check.same("still two", x.bad(0, -1), 2);
        x.call(0, 0, 1);
        check.same("one call, though its number is the last", x.bad(0, -1), 1);
        check.same("its number", x.bad(0, 0), 3);
        check.same("1 keeps its own", x.bad(1, -1), 2);
        check.same("1, first", x.bad(1, 0), 1);
        check.same("1, second", x.bad(1, 1), 0);
    }

    private static void leastNumbers() {
        RecursionProofs x = Check.withFunctions(1, 1, 1);
        x.call(2, 0, 1);
        x.call(1, 0, 1);
        x.call(0, 2, 1);
        x.call(0, 1, 1);
        x.call(1, 0, 0);
        check.same("the first call's number counts first", x.bad(0, 0), 2);
        check.same("then the second's", x.bad(0, 1), 0);
        check.same("of two with one graph the least", x.bad(1, 0), 1);
        check.same("and on", x.bad(1, 1), 3);

        RecursionProofs y = Check.withFunctions(2);
        y.call(0, 0, Check.known("00", "02"));
        y.call(0, 0, Check.known("20", "00"));
        y.call(0, 0, Check.known("20", "00"));
        check.same("0, 1 comes ahead of 1, 0", y.bad(0, 0), 0);
        check.same("and of 0, 2", y.bad(0, 1), 1);
        check.same("two calls", y.bad(0, -1), 2);
    }

    /** A ring through all ten functions, its first call told last. */
    private static void longRow() {
        RecursionProofs x = Check.withFunctions(1, 1, 1, 1, 1, 1, 1, 1, 1, 1);
        for (int f = 1; f < 10; f++) {
            x.call(f, (f + 1) % 10, 1);
        }
        check.same("not closed yet", x.falls(0), true);
        x.call(0, 1, 1);
        check.same("ten calls", x.bad(0, -1), 10);
        check.same("first", x.bad(0, 0), 9);
        for (int i = 1; i < 10; i++) {
            check.same("call " + i, x.bad(0, i), i - 1);
        }
        check.same("behind the last", x.bad(0, 10), -1);
        x.undo();
        x.call(0, 1, 2);
        check.same("one falls, so all fall", x.isSafe(5), true);
    }
}
