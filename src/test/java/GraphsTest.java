/** Promises 6 and 7: graphs and graph, and the limit of 800 graphs that others share. */
public final class GraphsTest {
    private static final int[] WRONG = {-1, 2, 10, Integer.MIN_VALUE, Integer.MAX_VALUE};

    private static final Check check = new Check();

    public static void main(String[] args) {
        noCalls();
        sharedGraphs();
        longerRows();
        orderOfBits();
        limit();
        check.end();
    }

    private static void noCalls() {
        RecursionProofs x = Check.withFunctions(1, 2);
        check.same("graphs without calls", x.graphs(0, 1), 0);
        check.index("graph without calls", () -> x.graph(0, 1, 0));
        for (int f : WRONG) {
            check.same("graphs(" + f + ", 0)", x.graphs(f, 0), -1);
            check.same("graphs(0, " + f + ")", x.graphs(0, f), -1);
            check.index("graph(" + f + ", 0, 0)", () -> x.graph(f, 0, 0));
            check.index("graph(0, " + f + ", 0)", () -> x.graph(0, f, 0));
        }
        x.call(0, 1, Check.known("12"));
        check.same("asked again after a call", x.graphs(0, 1), 1);
        x.function(1);
        check.same("to a function just made", x.graphs(0, 2), 0);
        check.same("from a function just made", x.graphs(2, 2), 0);
    }

    /** Different rows with one graph count once; one graph between other functions counts there. */
    private static void sharedGraphs() {
        RecursionProofs x = Check.withFunctions(1, 1, 1);
        x.call(0, 1, 1);
        x.call(0, 1, 1);
        x.call(1, 2, 1);
        check.same("twins", x.graphs(0, 1), 1);
        check.same("behind twins", x.graphs(0, 2), 1);
        check.same("last step", x.graphs(1, 2), 1);
        check.same("no way back", x.graphs(2, 0), 0);
        check.same("no way to itself", x.graphs(0, 0), 0);
        check.same("its bits", x.graph(0, 2, 0), 1);
        check.index("no second one", () -> x.graph(0, 2, 1));
        check.index("none below 0", () -> x.graph(0, 2, -1));
        check.index("none far off", () -> x.graph(0, 2, Integer.MAX_VALUE));
        check.index("none far below", () -> x.graph(0, 2, Integer.MIN_VALUE));
    }

    /** The graph of a row takes the greatest over all places between, whatever their number. */
    private static void longerRows() {
        RecursionProofs x = Check.withFunctions(1, 4, 2, 3);
        x.call(0, 1, Check.known("1021"));
        x.call(1, 2, Check.known("10", "22", "01", "02"));
        x.call(2, 3, Check.known("012", "100"));
        check.same("one to two", x.graphs(0, 2), 1);
        check.same("greatest of all between", x.graph(0, 2, 0), Check.known("12"));
        check.same("three calls", x.graph(0, 3, 0), Check.known("212"));
        check.same("two to three", x.graph(1, 3, 0), Check.known("012", "222", "100", "200"));

        RecursionProofs y = Check.withFunctions(4);
        y.call(0, 0, Check.known("0100", "0010", "0001", "1000"));
        check.same("a ring of four comes round", y.graphs(0, 0), 4);
        y.call(0, 0, Check.known("2000", "0100", "0010", "0001"));
        check.same("with one falling: any of them", y.graphs(0, 0), 64);
    }

    private static void orderOfBits() {
        int[] bits = {
            Check.known("0000", "0000", "0000", "0002"), Check.known("1"),
            Check.known("2", "0000", "0000", "0002"), Check.known("0002"), 0,
            Check.known("0000", "0000", "0000", "0001"), Check.known("0000", "2"),
        };
        int[] due = {bits[4], bits[1], bits[3], bits[6], bits[5], bits[0], bits[2]};
        check.same("one is below 0", due[5] < 0, true);
        RecursionProofs x = Check.withFunctions(4, 4);
        for (int b : bits) {
            x.call(0, 1, b);
        }
        check.same("all differ", x.graphs(0, 1), bits.length);
        for (int k = 0; k < due.length; k++) {
            check.same("graph " + k + " in order", x.graph(0, 1, k), due[k]);
        }
        check.index("behind the last", () -> x.graph(0, 1, bits.length));
    }

    private static void limit() {
        RecursionProofs x = Check.withEightHundredGraphs();
        int sum = 0;
        for (int f = 0; f < 10; f++) {
            for (int g = 0; g < 10; g++) {
                sum += x.graphs(f, g);
            }
        }
        check.same("800 graphs of all", sum, 800);
        check.same("384 of one", x.graphs(1, 1), 384);
        check.same("last of them", x.graph(1, 1, 383), Check.known("2000", "0200", "0020", "0002"));
        check.same("8 of a small one", x.graphs(5, 5), 8);
        x.call(6, 7, 1);
        beyondTheLimit(x);
        x.undo();
        check.same("undo brings them back", x.graphs(5, 5), 8);
        check.same("falls again", x.falls(6), true);
        x.call(5, 5, Check.known("01", "10"));
        check.same("a graph that is there counts once", x.graphs(5, 5), 8);
    }

    private static void beyondTheLimit(RecursionProofs x) {
        check.unsupported("801: graphs", () -> x.graphs(5, 5));
        check.unsupported("801: graphs without a row", () -> x.graphs(8, 9));
        check.unsupported("801: graph", () -> x.graph(5, 5, 0));
        check.unsupported("801: falls", () -> x.falls(8) ? 1 : 0);
        check.unsupported("801: isSafe", () -> x.isSafe(8) ? 1 : 0);
        check.unsupported("801: bad", () -> x.bad(8, -1));
        check.unsupported("801: bad, call 0", () -> x.bad(8, 0));
        check.same("801: graphs of none", x.graphs(10, 0), -1);
        check.same("801: graphs to none", x.graphs(0, -1), -1);
        check.same("801: bad of none", x.bad(10, -1), -1);
        check.index("801: graph of none", () -> x.graph(0, 10, 0));
        check.index("801: falls of none", () -> x.falls(-1) ? 1 : 0);
        check.index("801: isSafe of none", () -> x.isSafe(10) ? 1 : 0);
        check.same("801: order", x.order(2, -1), -1);
        check.same("801: reached", x.reached(6), 1 << 7);
        check.same("801: product", x.product(14, 1), 1);
        check.same("801: told", x.told(14, 1), 7);
        check.same("801: about", x.about(1), 15);
        check.same("801: one more call", x.call(7, 6, 0), 15);
        check.unsupported("more: graphs", () -> x.graphs(5, 5));
        x.undo();
    }
}
