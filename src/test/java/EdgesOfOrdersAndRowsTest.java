/** The edges of promises 11 to 13, and of the terms they stand on: a test for each sentence. */
public final class EdgesOfOrdersAndRowsTest {
    private static final int LOWEST = Integer.MIN_VALUE;
    private static final int HIGHEST = Integer.MAX_VALUE;
    private static final int NO_ROW = -2;
    /** With two functions made. */
    private static final int[] NO_FUNCTION = {-1, -2, 2, 9, 10, 11, 256, 65536, LOWEST, HIGHEST};

    private static final Check check = new Check();

    public static void main(String[] args) {
        callsToItselfAlone();
        leastPlace();
        knownInAllOpenCalls();
        lessInOneOfThem();
        openNoMore();
        noneOpenInTheEnd();
        noCallsToItself();
        oneStaysOpen();
        fourPlacesAtMost();
        twentyCallsToItself();
        noSuchPlaceOfAnOrder();
        orderOfNoFunction();
        nothingIsReached();
        itselfIsReachedByARowAlone();
        allTenAreReached();
        reachedOfNoFunction();
        productOfOneAndOfTwelve();
        lowestFirst();
        bitsBehindTheRow();
        productBelow0();
        noRow();
        tooFewOrTooManyCalls();
        noSuchCall();
        check.end();
    }

    private static void order(String what, RecursionProofs x, int... places) {
        check.same(what + ": how many", x.order(0, -1), places.length);
        for (int i = 0; i < 5; i++) {
            check.same(what + ": place " + i, x.order(0, i), i < places.length ? places[i] : -1);
        }
    }

    private static void noOrder(String what, RecursionProofs x) {
        for (int i : new int[] {-1, 0, 1, 2, 3, 4, -2, LOWEST, HIGHEST}) {
            check.same(what + ": order(0, " + i + ")", x.order(0, i), -1);
        }
    }

    private static RecursionProofs withCallsToItself(int places, int... known) {
        RecursionProofs x = Check.withFunctions(places);
        for (int k : known) {
            x.call(0, 0, k);
        }
        return x;
    }

    private static void callsToItselfAlone() {
        check.sentence("by its CALLS TO ITSELF alone");
        RecursionProofs x = Check.withFunctions(2, 2);
        x.call(0, 1, 0);
        x.call(1, 0, 0);
        x.call(1, 1, 0);
        order("others'", x);
        x.call(0, 0, Check.known("00", "02"));
        order("its own among others'", x, 1);
        x.call(0, 1, Check.known("20", "00"));
        order("another's 2 does not help", x, 1);
        x.call(0, 0, 0);
        noOrder("its own that is unknown", x);
    }

    private static void leastPlace() {
        check.sentence("the least place .. is taken");
        order("all do", withCallsToItself(4, Check.known("2000", "0200", "0020", "0002")), 0);
        order("the last two do", withCallsToItself(4, Check.known("1000", "0100", "0020", "0002")), 2);
        order("the last does", withCallsToItself(4, Check.known("1000", "0000", "0010", "0002")), 3);
        order("the least, though another one would do alone",
                withCallsToItself(2, Check.known("20", "02"), Check.known("10", "02")), 0, 1);
        order("the least again, behind a greater one",
                withCallsToItself(3, Check.known("000", "020", "001"), Check.known("200", "010", "002")), 1, 0);
    }

    private static void knownInAllOpenCalls() {
        check.sentence("that has 1 or 2 to itself in all open calls");
        order("1 in one, 2 in another",
                withCallsToItself(2, Check.known("10", "02"), Check.known("20", "00")), 0, 1);
        order("0 in one: not that place",
                withCallsToItself(2, Check.known("00", "02"), Check.known("20", "02")), 1);
        noOrder("0 of each place in one call or the other",
                withCallsToItself(2, Check.known("20", "00"), Check.known("00", "02")));
        noOrder("known only from a place to another",
                withCallsToItself(2, Check.known("02", "20")));
        noOrder("all known, but for a place to itself",
                withCallsToItself(4, Check.known("0222", "2022", "2202", "2220")));
    }

    private static void lessInOneOfThem() {
        check.sentence("and 2 in one of them");
        noOrder("1 in all", withCallsToItself(1, 1, 1));
        noOrder("1 of all places", withCallsToItself(4, Check.known("1111", "1111", "1111", "1111")));
        order("not a place with 1 in all", withCallsToItself(2, Check.known("10", "02")), 1);
        order("2 in one is enough to be taken",
                withCallsToItself(2, Check.known("20", "00"), Check.known("10", "02")), 0, 1);
    }

    private static void openNoMore() {
        check.sentence("the open calls where it has 2 are open no more");
        order("an unknown place of a closed call does not matter",
                withCallsToItself(2, Check.known("00", "02"), Check.known("20", "01")), 1, 0);
        noOrder("an unknown place of an open call does",
                withCallsToItself(2, Check.known("00", "01"), Check.known("20", "01"), Check.known("00", "02")));
        noOrder("a 2 in a closed call is not enough",
                withCallsToItself(2, Check.known("20", "02"), Check.known("10", "01")));
    }

    private static void noneOpenInTheEnd() {
        check.sentence("If none is open in the end the places taken, in this order, are the order");
        order("three of four, not in the order of their numbers", withCallsToItself(4,
                Check.known("0000", "0000", "0000", "0002"),
                Check.known("0000", "0200", "0000", "0001"),
                Check.known("2000", "0100", "0000", "0001")), 3, 1, 0);
    }

    private static void noCallsToItself() {
        check.sentence("none, if there are no such calls");
        RecursionProofs x = Check.withFunctions(4, 1);
        order("no calls at all", x);
        x.call(0, 1, 0);
        order("a call to another", x);
        x.call(1, 0, 0);
        order("and back", x);
        x.call(0, 0, 0);
        noOrder("one to itself", x);
        x.undo();
        order("undone", x);
    }

    private static void oneStaysOpen() {
        check.sentence("NONE if there is no order");
        RecursionProofs x = withCallsToItself(1, 0);
        noOrder("nothing known", x);
        x.undo();
        x.call(0, 0, 1);
        noOrder("not greater", x);
        x.call(0, 0, 2);
        noOrder("one of two, though a place is taken", x);
        RecursionProofs y = withCallsToItself(4,
                Check.known("2000", "0100", "0010", "0001"), Check.known("1000", "0200", "0010", "0001"),
                Check.known("1000", "0100", "0020", "0001"), Check.known("1000", "0100", "0010", "0002"),
                Check.known("1000", "0100", "0010", "0001"));
        noOrder("one of five, though all places are taken", y);
        y.undo();
        order("without it", y, 0, 1, 2, 3);
    }

    private static void fourPlacesAtMost() {
        check.sentence("how many places (i = NONE ..), place i from 0 on");
        order("all four, the last first", withCallsToItself(4,
                Check.known("0000", "0000", "0000", "0002"), Check.known("0000", "0000", "0020", "0001"),
                Check.known("0000", "0200", "0010", "0001"), Check.known("2000", "0100", "0010", "0001")),
                3, 2, 1, 0);
        order("one of one", withCallsToItself(1, 2), 0);
    }

    private static void twentyCallsToItself() {
        check.sentence("at first all of them are OPEN: twenty");
        RecursionProofs x = Check.withFunctions(2);
        for (int c = 0; c < 19; c++) {
            x.call(0, 0, Check.known("20", "00"));
        }
        order("19 of one kind", x, 0);
        x.call(0, 0, Check.known("10", "02"));
        order("the twentieth needs the other place", x, 0, 1);
        x.undo();
        x.call(0, 0, Check.known("00", "02"));
        noOrder("the twentieth spoils it", x);
    }

    private static void noSuchPlaceOfAnOrder() {
        check.sentence("order: NONE if there is none such");
        RecursionProofs x = withCallsToItself(3, Check.known("000", "020", "000"));
        check.same("place 0", x.order(0, 0), 1);
        for (int i : new int[] {1, 2, 3, 4, 256, 65536, HIGHEST, -2, -256, LOWEST, LOWEST + 1}) {
            check.same("place " + i, x.order(0, i), -1);
        }
    }

    private static void orderOfNoFunction() {
        check.sentence("order: NONE .. no such function");
        RecursionProofs none = new RecursionProofs();
        RecursionProofs x = Check.withFunctions(1, 1);
        x.call(0, 0, 2);
        x.call(1, 1, 2);
        for (int i : new int[] {-1, 0, 1, -2, LOWEST, HIGHEST}) {
            check.same("no functions at all, " + i, none.order(0, i), -1);
            for (int f : NO_FUNCTION) {
                check.same("order(" + f + ", " + i + ")", x.order(f, i), -1);
            }
        }
        x.function(1);
        check.same("made since", x.order(2, -1), 0);
    }

    private static void nothingIsReached() {
        check.sentence("REACHED from a function is what rows of calls from it lead to: no rows");
        RecursionProofs x = Check.withFunctions(1, 1, 1);
        for (int f = 0; f < 3; f++) {
            check.same("no calls: " + f, x.reached(f), 0);
        }
        x.call(0, 1, 0);
        check.same("one call", x.reached(0), 2);
        check.same("against its direction", x.reached(1), 0);
        check.same("aside", x.reached(2), 0);
        x.undo();
        check.same("undone", x.reached(0), 0);
    }

    private static void itselfIsReachedByARowAlone() {
        check.sentence("REACHED .. is what rows of calls from it lead to: itself");
        RecursionProofs x = Check.withFunctions(1, 1);
        x.call(0, 1, 0);
        check.same("no way back", x.reached(0), 2);
        x.call(1, 0, 0);
        check.same("there and back", x.reached(0), 3);
        check.same("back and there", x.reached(1), 3);
        x.undo();
        x.call(1, 1, 0);
        check.same("to itself", x.reached(1), 2);
        check.same("ahead of it", x.reached(0), 2);
    }

    private static void allTenAreReached() {
        check.sentence("Functions that are reached from one, as bits");
        RecursionProofs x = Check.withFunctions(1, 1, 1, 1, 1, 1, 1, 1, 1, 1);
        for (int f = 8; f >= 0; f--) {
            x.call(f, f + 1, 0);
        }
        for (int f = 0; f < 10; f++) {
            check.same("the ones behind " + f, x.reached(f), 1023 & -2 << f);
        }
        x.call(9, 0, 0);
        for (int f = 0; f < 10; f++) {
            check.same("all ten from " + f, x.reached(f), 1023);
        }
    }

    private static void reachedOfNoFunction() {
        check.sentence("reached: NONE if there is none such");
        check.same("no functions at all", new RecursionProofs().reached(0), -1);
        RecursionProofs x = Check.withFunctions(1, 1);
        x.call(0, 1, 1);
        for (int f : NO_FUNCTION) {
            check.same("reached(" + f + ")", x.reached(f), -1);
        }
        x.function(1);
        check.same("made since", x.reached(2), 0);
    }

    private static void productOfOneAndOfTwelve() {
        check.sentence("The graph of a row .. many of them: 1 and 12");
        RecursionProofs x = Check.withFunctions(4);
        x.call(0, 0, Check.known("0100", "0010", "0001", "2000"));
        check.same("one", x.product(0, 1), Check.known("0100", "0010", "0001", "2000"));
        check.same("two", x.product(0, 2), Check.known("0010", "0001", "2000", "0200"));
        check.same("three", x.product(0, 3), Check.known("0001", "2000", "0200", "0020"));
        check.same("four", x.product(0, 4), Check.known("2000", "0200", "0020", "0002"));
        check.same("eleven", x.product(0, 11), Check.known("0002", "2000", "0200", "0020"));
        check.same("twelve", x.product(0, 12), Check.known("2000", "0200", "0020", "0002"));
    }

    private static void lowestFirst() {
        check.sentence("five bits each, the lowest first");
        RecursionProofs x = Check.withFunctions(2, 1);
        for (int c = 0; c < 18; c++) {
            x.call(0, 0, Check.known("10", "01"));
        }
        x.call(0, 0, Check.known("01", "00"));
        x.call(0, 0, Check.known("02", "20"));
        check.same("18, then 19", x.product(18 | 19 << 5, 2), Check.known("20", "00"));
        check.same("19, then 18", x.product(19 | 18 << 5, 2), Check.known("00", "02"));
        for (int at = 0; at < 12; at++) {
            check.same("19 as number " + at + " of 12", x.product(19L << 5 * at, 12), Check.known("02", "20"));
        }
        for (int c = 0; c < 20; c++) {
            check.same("each of the twenty: " + c, x.product(c, 1), x.told(c, 2));
        }
    }

    private static void bitsBehindTheRow() {
        check.sentence("many of them: what stands behind them in row is none of the row");
        RecursionProofs x = Check.withFunctions(1, 1);
        x.call(0, 0, 1);
        x.call(0, 0, 2);
        x.call(1, 1, 2);
        for (int many = 1; many <= 12; many++) {
            check.same("no such calls behind " + many, x.product(-1L << 5 * many, many), 1);
            check.same("another call behind " + many, x.product(many == 12 ? 0 : 1L << 5 * many, many), 1);
            check.same("no row behind " + many, x.product(many == 12 ? 0 : 2L << 5 * many, many), 1);
        }
        check.same("the four highest bits", x.product(0xF000000000000000L, 12), 1);
        check.same("the highest bit", x.product(Long.MIN_VALUE, 12), 1);
    }

    private static void productBelow0() {
        check.sentence("its bits");
        RecursionProofs x = Check.withFunctions(4);
        x.call(0, 0, -1);
        x.call(0, 0, 2 << 30);
        x.call(0, 0, 0);
        check.same("all 2", x.product(0, 1), 0xAAAAAAAA);
        check.same("all 2, twelve times", x.product(0, 12), 0xAAAAAAAA);
        check.same("the last place alone", x.product(Check.row(1, 1), 2), 2 << 30);
        check.same("nothing known is a graph", x.product(2, 1), 0);
        check.same("nothing at the end", x.product(Check.row(0, 1, 2), 3), 0);
    }

    private static void noRow() {
        check.sentence("NONE - 1 if it is no row");
        RecursionProofs x = Check.withFunctions(1, 1);
        x.call(0, 1, 1);
        x.call(1, 0, 1);
        x.call(1, 1, 1);
        check.same("there and back", x.product(Check.row(0, 1), 2), 1);
        check.same("twice there", x.product(Check.row(0, 0), 2), NO_ROW);
        check.same("back and stay", x.product(Check.row(1, 2), 2), NO_ROW);
        int[] calls = {0, 2, 2, 2, 2, 2, 2, 2, 2, 2, 2, 1};
        check.same("twelve", x.product(Check.row(calls), 12), 1);
        for (int at = 1; at < 12; at++) {
            int right = calls[at];
            calls[at] = 0;
            check.same("broken at " + at, x.product(Check.row(calls), 12), NO_ROW);
            check.same("not yet broken", x.product(Check.row(calls), at), 1);
            calls[at] = right;
        }
    }

    private static void tooFewOrTooManyCalls() {
        check.sentence("NONE - 1 if .. many is not 1 .. 12");
        RecursionProofs x = Check.withFunctions(1);
        x.call(0, 0, 1);
        for (int many : new int[] {0, -1, -12, 13, 14, 20, 64, 257, 65537, LOWEST, LOWEST + 1, HIGHEST}) {
            check.same("many " + many, x.product(0, many), NO_ROW);
        }
        check.same("1", x.product(0, 1), 1);
        check.same("12", x.product(0, 12), 1);
    }

    private static void noSuchCall() {
        check.sentence("NONE - 1 if .. there is no such call");
        RecursionProofs x = Check.withFunctions(1);
        check.same("no functions at all", new RecursionProofs().product(0, 1), NO_ROW);
        check.same("no calls at all", x.product(0, 1), NO_ROW);
        for (int calls = 1; calls <= 20; calls++) {
            x.call(0, 0, 1);
            check.same("the last of " + calls, x.product(calls - 1, 1), 1);
            check.same("behind the last of " + calls, x.product(calls, 1), NO_ROW);
            check.same("the highest number", x.product(31, 1), NO_ROW);
        }
        for (int at = 0; at < 12; at++) {
            check.same("20 as number " + at, x.product(20L << 5 * at, 12), NO_ROW);
            check.same("31 as number " + at, x.product(31L << 5 * at, 12), NO_ROW);
        }
        check.same("all bits", x.product(-1L, 12), NO_ROW);
        x.undo();
        check.same("an undone call", x.product(19, 1), NO_ROW);
    }
}
