/** The edges of promises 6 and 7, of rows, and of the limit of 800: a test for each sentence. */
public final class EdgesOfGraphsTest {
    private static final int LOWEST = Integer.MIN_VALUE;
    private static final int HIGHEST = Integer.MAX_VALUE;
    /** With two functions made. */
    private static final int[] NO_FUNCTION = {-1, -2, 2, 9, 10, 11, 256, 65536, LOWEST, HIGHEST};

    private static final Check check = new Check();

    public static void main(String[] args) {
        rowOfOneCall();
        noRowWithoutCalls();
        callsThatDoNotMeet();
        nothingIfOneIsNothing();
        greaterOfTwo();
        greatestOfAllPlaces();
        anyWayPutTogether();
        differentGraphs();
        graphsOfNoFunction();
        exactly800();
        moreThan800();
        moreThan800FromOne();
        farMoreThan800();
        moreThan800AndUndo();
        moreThan800AndNoFunction();
        moreThan800AndAnyNumber();
        moreThan800AndTheRest();
        orderOfBits();
        orderBelow0Last();
        graphBehindTheLast();
        graphBelowTheFirst();
        graphWhereThereIsNone();
        graphOfNoFunction();
        check.end();
    }

    private static void rowOfOneCall() {
        check.sentence("A ROW of calls (one or more)");
        RecursionProofs x = Check.withFunctions(2, 2, 1);
        x.call(0, 1, Check.known("12", "01"));
        check.same("one call is a row", x.graphs(0, 1), 1);
        check.same("its graph is what is known", x.graph(0, 1, 0), Check.known("12", "01"));
        x.call(1, 2, Check.known("0", "1"));
        check.same("two are one too", x.graphs(0, 2), 1);
        check.same("and the graph of both", x.graph(0, 2, 0), Check.known("2", "1"));
        x.call(2, 2, 1);
        check.same("and as many as one likes", x.graphs(0, 2), 1);
    }

    private static void noRowWithoutCalls() {
        check.sentence("A ROW of calls (one or more): none has no calls");
        RecursionProofs x = Check.withFunctions(1, 4);
        for (int f = 0; f < 2; f++) {
            for (int g = 0; g < 2; g++) {
                check.same("no calls: graphs(" + f + ", " + g + ")", x.graphs(f, g), 0);
            }
        }
        x.call(0, 1, Check.known("1111"));
        check.same("from the first to itself", x.graphs(0, 0), 0);
        check.same("from the second to itself", x.graphs(1, 1), 0);
        check.same("back", x.graphs(1, 0), 0);
    }

    private static void callsThatDoNotMeet() {
        check.sentence("each from where the one ahead leads to");
        RecursionProofs x = Check.withFunctions(1, 1, 1, 1);
        x.call(2, 3, 1);
        x.call(0, 1, 1);
        check.same("0 to 3", x.graphs(0, 3), 0);
        check.same("2 to 1", x.graphs(2, 1), 0);
        check.same("0 to 2", x.graphs(0, 2), 0);
        x.call(1, 2, 2);
        check.same("they meet: 0 to 3", x.graphs(0, 3), 1);
        check.same("not the other way", x.graphs(3, 0), 0);
        check.same("the graph of all three", x.graph(0, 3, 0), 2);
    }

    private static void nothingIfOneIsNothing() {
        check.sentence("0 if A's of i, j or B's of j, k is 0");
        for (int known = 0; known <= 2; known++) {
            check.same("0, then " + known, ofTwo(0, known), 0);
            check.same(known + ", then 0", ofTwo(known, 0), 0);
        }
    }

    private static void greaterOfTwo() {
        check.sentence("else the greater of these two");
        check.same("1, then 1", ofTwo(1, 1), 1);
        check.same("1, then 2", ofTwo(1, 2), 2);
        check.same("2, then 1", ofTwo(2, 1), 2);
        check.same("2, then 2", ofTwo(2, 2), 2);
    }

    private static int ofTwo(int a, int b) {
        RecursionProofs x = Check.withFunctions(1, 1, 1);
        x.call(0, 1, a);
        x.call(1, 2, b);
        check.same("product too", x.product(Check.row(0, 1), 2), x.graph(0, 2, 0));
        return x.graph(0, 2, 0);
    }

    private static void greatestOfAllPlaces() {
        check.sentence("for i and k the greatest, of all places j between");
        for (int between = 1; between <= 4; between++) {
            RecursionProofs x = Check.withFunctions(4, between, 4);
            for (int j = 0; j < between; j++) {
                for (int other = 0; other < between; other++) {
                    // a way of 1 through one place, and of 1 and 2 through another one
                    x.call(0, 1, 1 << 24 + 2 * j | (other == j ? 0 : 1 << 24 + 2 * other));
                    x.call(1, 2, 1 << 8 * j + 4 | (other == j ? 0 : 2 << 8 * other + 4));
                    check.same(j + " and " + other + " of " + between, x.graph(0, 2, 0),
                            (other == j ? 1 : 2) << 24 + 4);
                    x.undo();
                    x.undo();
                }
            }
        }
        RecursionProofs y = Check.withFunctions(4, 4, 4);
        y.call(0, 1, Check.known("2222", "2222", "2222", "2222"));
        y.call(1, 2, Check.known("1111", "1111", "1111", "1111"));
        check.same("all of all", y.graph(0, 2, 0), 0xAAAAAAAA);
    }

    private static void anyWayPutTogether() {
        check.sentence("It does not matter how a row is put together");
        RecursionProofs x = Check.withFunctions(2, 3, 4, 1);
        x.call(2, 3, Check.known("0", "2", "1", "1"));
        x.call(0, 1, Check.known("102", "011"));
        x.call(1, 2, Check.known("1100", "0021", "2010"));
        check.same("one row, one graph", x.graphs(0, 3), 1);
        check.same("the first two", x.graph(0, 2, 0), Check.known("2120", "2021"));
        check.same("the last two", x.graph(1, 3, 0), Check.known("2", "2", "1"));
        check.same("all three", x.graph(0, 3, 0), Check.known("2", "2"));
    }

    private static void differentGraphs() {
        check.sentence("How many different graphs rows from one function to another one have");
        RecursionProofs x = Check.withFunctions(1, 1, 2);
        x.call(0, 1, 0);
        check.same("where nothing is known there is a graph", x.graphs(0, 1), 1);
        check.same("its bits", x.graph(0, 1, 0), 0);
        x.call(0, 1, 0);
        check.same("twins are one", x.graphs(0, 1), 1);
        x.call(0, 1, 1);
        x.call(0, 1, 2);
        check.same("all there are", x.graphs(0, 1), 3);
        x.call(1, 1, 1);
        check.same("rows of any length with one graph", x.graphs(1, 1), 1);
        check.same("nothing more by that", x.graphs(0, 1), 3);
        check.same("the same bits elsewhere are not these", x.graphs(0, 2), 0);
        x.undo();
        check.same("none without the call", x.graphs(1, 1), 0);
    }

    private static void graphsOfNoFunction() {
        check.sentence("NONE if there is no such function");
        check.same("no functions at all", new RecursionProofs().graphs(0, 0), -1);
        RecursionProofs x = Check.withFunctions(1, 1);
        x.call(0, 1, 1);
        for (int f : NO_FUNCTION) {
            check.same("graphs(" + f + ", 1)", x.graphs(f, 1), -1);
            check.same("graphs(0, " + f + ")", x.graphs(0, f), -1);
            check.same("graphs(" + f + ", " + f + ")", x.graphs(f, f), -1);
        }
        check.same("some that are there", x.graphs(0, 1), 1);
        x.function(1);
        check.same("made since", x.graphs(2, 2), 0);
    }

    private static int sum(RecursionProofs x) {
        int sum = 0;
        int functions = x.about(0);
        for (int f = 0; f < functions; f++) {
            for (int g = 0; g < functions; g++) {
                sum += x.graphs(f, g);
            }
        }
        return sum;
    }

    private static void exactly800() {
        check.sentence("the graphs of all rows of all are more than 800: 800 are not");
        RecursionProofs one = Check.withEightHundredFromOne();
        check.same("800 of one function", one.graphs(0, 0), 800);
        check.same("none of the last", one.graphs(9, 9), 0);
        check.same("the first of 800", one.graph(0, 0, 0), 0);
        check.same("the last of 800", one.graph(0, 0, 799), 0xAAAAAAAA);
        check.index("behind the last of 800", () -> one.graph(0, 0, 800));
        check.same("falls, with 800", one.falls(0), false);
        check.same("falls, the last function", one.falls(9), true);
        check.same("isSafe, with 800", one.isSafe(0), false);
        check.same("bad, with 800", one.bad(0, -1), 2);

        RecursionProofs many = Check.withEightHundredGraphs();
        check.same("800 of six functions", sum(many), 800);
        check.same("the same bits between others count", many.graph(0, 0, 7), many.graph(1, 1, 7));
        check.same("falls, with 800 of six", many.falls(9), true);
        many.call(5, 5, Check.known("02", "10"));
        check.same("a call that adds no graph", sum(many), 800);
    }

    private static void tooMany(String when, RecursionProofs x, int f) {
        check.unsupported(when + ": graphs(" + f + ", ..)", () -> x.graphs(f, f));
        check.unsupported(when + ": graph(" + f + ", ..)", () -> x.graph(f, f, 0));
        check.unsupported(when + ": falls(" + f + ")", () -> x.falls(f) ? 1 : 0);
        check.unsupported(when + ": isSafe(" + f + ")", () -> x.isSafe(f) ? 1 : 0);
        check.unsupported(when + ": bad(" + f + ", NONE)", () -> x.bad(f, -1));
        check.unsupported(when + ": bad(" + f + ", 0)", () -> x.bad(f, 0));
    }

    private static void moreThan800() {
        check.sentence("UnsupportedOperationException: the graphs of all rows of all are more than 800 (likewise below)");
        RecursionProofs last = Check.withEightHundredFromOne();
        last.call(9, 9, 2);
        RecursionProofs between = Check.withEightHundredGraphs();
        between.call(6, 7, 0);
        for (int f = 0; f < 10; f++) {
            tooMany("one of the last function", last, f);
            tooMany("one between two functions", between, f);
        }
        check.unsupported("graphs from one to another", () -> between.graphs(6, 7));
        check.unsupported("graph from one to another", () -> between.graph(6, 7, 0));
    }

    private static void moreThan800FromOne() {
        check.sentence("more than 800, of one function alone");
        RecursionProofs x = Check.withFunctions(4);
        x.call(0, 0, Check.known("0200", "1000", "1000", "0020"));
        x.call(0, 0, Check.known("0000", "2120", "0100", "0002"));
        x.call(0, 0, Check.known("0010", "0000", "1001", "0000"));
        check.same("without the fourth call", x.graphs(0, 0) < 800, true);
        x.call(0, 0, Check.known("0001", "0001", "0012", "1002"));
        tooMany("801 of one", x, 0);
    }

    private static void farMoreThan800() {
        check.sentence("more than 800, by far");
        RecursionProofs x = Check.withFunctions(4, 4, 4, 4, 4, 4, 4, 4, 4, 4);
        for (int f = 0; f < 10; f++) {
            x.call(f, (f + 1) % 10, Check.known("0100", "0010", "0001", "2000"));
            x.call(f, (f + 3) % 10, Check.known("1100", "1000", "0010", "0021"));
        }
        for (int f = 0; f < 10; f++) {
            tooMany("all functions and all calls", x, f);
        }
        check.unsupported("graphs from the first to the last", () -> x.graphs(0, 9));
    }

    private static void moreThan800AndUndo() {
        check.sentence("more than 800, and then no more");
        RecursionProofs x = Check.withEightHundredFromOne();
        x.call(4, 5, 1);
        tooMany("801", x, 5);
        check.same("one more call is taken", x.call(4, 5, 2), 4);
        tooMany("802", x, 5);
        check.same("undo", x.undo(), true);
        tooMany("801 again", x, 5);
        check.same("undo again", x.undo(), true);
        check.same("graphs of the first", x.graphs(0, 0), 800);
        check.same("no graphs of the fifth", x.graphs(4, 5), 0);
        check.same("the fifth falls", x.falls(4), true);
        x.undo();
        check.same("fewer graphs by one call less", x.graphs(0, 0) < 800, true);
        check.same("it is room for others", x.call(4, 5, 1), 2);
        check.same("which are there now", x.graphs(4, 5), 1);
    }

    private static void moreThan800AndNoFunction() {
        check.sentence("more than 800, and NONE or IndexOutOfBoundsException for no such function");
        RecursionProofs x = Check.withFunctions(4, 4);
        for (int f = 0; f < 2; f++) {
            x.call(f, 1 - f, Check.known("0100", "0010", "0001", "1000"));
            x.call(f, f, Check.known("0100", "1000", "0010", "0001"));
            x.call(f, f, Check.known("2000", "0100", "0010", "0001"));
        }
        tooMany("functions that are there", x, 0);
        for (int f : NO_FUNCTION) {
            check.same("graphs(" + f + ", 0)", x.graphs(f, 0), -1);
            check.same("graphs(0, " + f + ")", x.graphs(0, f), -1);
            check.index("graph(" + f + ", 0, 0)", () -> x.graph(f, 0, 0));
            check.index("graph(0, " + f + ", 0)", () -> x.graph(0, f, 0));
            check.index("falls(" + f + ")", () -> x.falls(f) ? 1 : 0);
            check.index("isSafe(" + f + ")", () -> x.isSafe(f) ? 1 : 0);
            check.same("bad(" + f + ", -1)", x.bad(f, -1), -1);
            check.same("bad(" + f + ", 0)", x.bad(f, 0), -1);
        }
    }

    /**
     * Which graphs and calls of a bad row there are can't be said without the graphs, so no number is
     * looked at; the document leaves open whether one below 0 would be, and this is the README's answer.
     */
    private static void moreThan800AndAnyNumber() {
        check.sentence("more than 800, and any k or i");
        RecursionProofs x = Check.withEightHundredFromOne();
        x.call(9, 9, 2);
        for (int number : new int[] {0, 1, 799, 800, 801, HIGHEST, -1, -2, LOWEST}) {
            check.unsupported("graph(0, 0, " + number + ")", () -> x.graph(0, 0, number));
            check.unsupported("graph(1, 2, " + number + ")", () -> x.graph(1, 2, number));
            check.unsupported("bad(0, " + number + ")", () -> x.bad(0, number));
            check.unsupported("bad(1, " + number + ")", () -> x.bad(1, number));
        }
    }

    /** What has no such exception in the face answers as ever. */
    private static void moreThan800AndTheRest() {
        check.sentence("more than 800, and what does not throw UnsupportedOperationException");
        RecursionProofs x = Check.withEightHundredFromOne();
        x.call(4, 5, 1);
        x.call(5, 5, 2);
        tooMany("802", x, 4);
        check.same("told", x.told(3, 1), 5);
        check.same("order of none", x.order(0, -1), -1);
        check.same("order of one", x.order(5, 0), 0);
        check.same("reached", x.reached(4), 1 << 5);
        check.same("product", x.product(Check.row(3, 4), 2), 2);
        check.same("functions", x.about(0), 10);
        check.same("calls", x.about(1), 5);
        check.state("an eleventh function", () -> x.function(1));
        check.argument("places", () -> x.function(0));
        check.index("a call to none", () -> x.call(0, 10, 0));
        for (int c = 5; c < 20; c++) {
            check.same("calls go on", x.call(5, 5, 2), c);
        }
        check.state("the 21st call", () -> x.call(5, 5, 2));
        check.same("undo", x.undo(), true);
    }

    private static void inOrder(int... due) {
        RecursionProofs x = Check.withFunctions(4, 4);
        for (int k = due.length - 1; k >= 0; k--) {
            x.call(0, 1, due[k]);
        }
        RecursionProofs y = Check.withFunctions(4, 4);
        for (int bits : due) {
            y.call(0, 1, bits);
        }
        check.same("all differ", x.graphs(0, 1), due.length);
        for (int k = 0; k < due.length; k++) {
            check.same("number " + k + ", told from the last on", x.graph(0, 1, k), due[k]);
            check.same("number " + k + ", told from the first on", y.graph(0, 1, k), due[k]);
        }
    }

    private static void orderOfBits() {
        check.sentence("in the order of their bits");
        inOrder(0, 1, 2, 4, 5, 6, 8, 9, 10);
        inOrder(0, 2, 1 << 2, 1 << 6, 2 << 6, 1 << 8, 1 << 8 | 1, 1 << 14, 1 << 16, 2 << 22, 1 << 24, 1 << 30);
        inOrder(42);
    }

    private static void orderBelow0Last() {
        check.sentence("as whole numbers of 32 bits, below 0 last");
        inOrder(0, 0x6AAAAAAA, LOWEST, LOWEST | 1, 0xAAAAAAA9, 0xAAAAAAAA);
        inOrder(1, LOWEST);
        inOrder(LOWEST, 0x84000000, 0xA0000000);
    }

    private static RecursionProofs withThree() {
        RecursionProofs x = Check.withFunctions(1, 1);
        x.call(0, 1, 2);
        x.call(0, 1, 1);
        x.call(0, 1, 0);
        return x;
    }

    private static void graphBehindTheLast() {
        check.sentence("IndexOutOfBoundsException: there is none such (k too large)");
        RecursionProofs x = withThree();
        check.same("the last", x.graph(0, 1, 2), 2);
        for (int k : new int[] {3, 4, 20, 256, 800, 801, 65536, HIGHEST}) {
            check.index("graph(0, 1, " + k + ")", () -> x.graph(0, 1, k));
        }
        x.undo();
        check.same("the last of two", x.graph(0, 1, 1), 2);
        check.index("behind it", () -> x.graph(0, 1, 2));
    }

    private static void graphBelowTheFirst() {
        check.sentence("IndexOutOfBoundsException: there is none such (k below 0)");
        RecursionProofs x = withThree();
        check.same("the first", x.graph(0, 1, 0), 0);
        for (int k : new int[] {-1, -2, -3, -256, -800, LOWEST, LOWEST + 1}) {
            check.index("graph(0, 1, " + k + ")", () -> x.graph(0, 1, k));
        }
    }

    private static void graphWhereThereIsNone() {
        check.sentence("IndexOutOfBoundsException: there is none such (no rows)");
        RecursionProofs x = withThree();
        for (int k : new int[] {-1, 0, 1, LOWEST, HIGHEST}) {
            check.index("graph(1, 0, " + k + ")", () -> x.graph(1, 0, k));
            check.index("graph(0, 0, " + k + ")", () -> x.graph(0, 0, k));
            check.index("graph(1, 1, " + k + ")", () -> x.graph(1, 1, k));
        }
        RecursionProofs y = Check.withFunctions(1);
        check.index("no calls at all", () -> y.graph(0, 0, 0));
        y.call(0, 0, 1);
        check.same("a call", y.graph(0, 0, 0), 1);
        y.undo();
        check.index("no calls again", () -> y.graph(0, 0, 0));
    }

    private static void graphOfNoFunction() {
        check.sentence("IndexOutOfBoundsException: there is none such (no such function)");
        RecursionProofs none = new RecursionProofs();
        check.index("no functions at all", () -> none.graph(0, 0, 0));
        RecursionProofs x = withThree();
        for (int f : NO_FUNCTION) {
            check.index("graph(" + f + ", 1, 0)", () -> x.graph(f, 1, 0));
            check.index("graph(0, " + f + ", 0)", () -> x.graph(0, f, 0));
            check.index("graph(" + f + ", " + f + ", -1)", () -> x.graph(f, f, -1));
        }
    }
}
