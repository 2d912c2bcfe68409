/** Promise 11: order. */
public final class OrderTest {
    private static final int[] WRONG = {-1, 1, 10, Integer.MIN_VALUE, Integer.MAX_VALUE};

    private static final Check check = new Check();

    public static void main(String[] args) {
        wrong();
        simple();
        onlyCallsToItself();
        leastPlaceFirst();
        openCallsAlone();
        stuck();
        check.end();
    }

    private static void due(String what, RecursionProofs x, int... places) {
        check.same(what + ": how many", x.order(0, -1), places.length);
        for (int i = 0; i < places.length; i++) {
            check.same(what + ": place " + i, x.order(0, i), places[i]);
        }
        check.same(what + ": behind the last", x.order(0, places.length), -1);
    }

    private static void none(String what, RecursionProofs x) {
        for (int i = -2; i < 5; i++) {
            check.same(what + ": order(0, " + i + ")", x.order(0, i), -1);
        }
    }

    private static void wrong() {
        RecursionProofs x = Check.withFunctions(1);
        x.call(0, 0, 2);
        for (int f : WRONG) {
            check.same("order(" + f + ", -1)", x.order(f, -1), -1);
            check.same("order(" + f + ", 0)", x.order(f, 0), -1);
        }
        for (int i : new int[] {-2, 1, 4, Integer.MIN_VALUE, Integer.MAX_VALUE}) {
            check.same("order(0, " + i + ")", x.order(0, i), -1);
        }
    }

    private static void simple() {
        RecursionProofs x = Check.withFunctions(1);
        due("no calls", x);
        x.call(0, 0, 2);
        due("less", x, 0);
        x.call(0, 0, 1);
        none("and not greater", x);
        x.undo();
        x.call(0, 0, 0);
        none("and unknown", x);
        x.undo();
        x.call(0, 0, 3);
        due("less twice", x, 0);
    }

    private static void onlyCallsToItself() {
        RecursionProofs x = Check.withFunctions(2, 2);
        x.call(0, 1, 0);
        x.call(1, 0, 0);
        x.call(1, 1, 0);
        due("calls of others", x);
        x.call(0, 0, Check.known("02", "20"));
        none("only from a place to another", x);
        x.undo();
        x.call(0, 0, Check.known("00", "02"));
        due("with one of its own", x, 1);
        check.same("the other one", x.order(1, -1), -1);
    }

    private static void leastPlaceFirst() {
        RecursionProofs x = Check.withFunctions(3);
        x.call(0, 0, Check.known("200", "020", "002"));
        due("all of them: the least does", x, 0);
        x.call(0, 0, Check.known("100", "020", "002"));
        due("0 leaves one open, 1 is next", x, 0, 1);
        x.call(0, 0, Check.known("000", "010", "002"));
        due("0 is unknown in one: 1 goes first, then 2", x, 1, 2);
    }

    private static void openCallsAlone() {
        RecursionProofs x = Check.withFunctions(4);
        x.call(0, 0, Check.known("0000", "0000", "0000", "0002"));
        x.call(0, 0, Check.known("0000", "0000", "0020", "0001"));
        x.call(0, 0, Check.known("0000", "0200", "0010", "0001"));
        x.call(0, 0, Check.known("2000", "0100", "0010", "0001"));
        due("from the last place to the first", x, 3, 2, 1, 0);
        x.undo();
        due("without the last call", x, 3, 2, 1);
        x.call(0, 0, Check.known("1000", "0100", "0010", "0001"));
        none("one stays open", x);

        RecursionProofs y = Check.withFunctions(2);
        y.call(0, 0, Check.known("10", "01"));
        y.call(0, 0, Check.known("20", "01"));
        none("the first call stays open", y);
        y.call(0, 0, Check.known("10", "02"));
        none("though both places are taken", y);
    }

    private static void stuck() {
        RecursionProofs x = Check.withFunctions(2);
        x.call(0, 0, Check.known("20", "00"));
        x.call(0, 0, Check.known("00", "02"));
        none("each unknown in the other", x);
        x.undo();
        x.call(0, 0, Check.known("10", "01"));
        none("0 is taken, the other call stays open", x);

        RecursionProofs y = Check.withFunctions(4);
        y.call(0, 0, Check.known("0222", "2022", "2202", "2220"));
        none("every value but those from a place to itself", y);
    }
}
