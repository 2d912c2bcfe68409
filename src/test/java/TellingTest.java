/** Promises 1 to 5 and 14: a new object, function, call, undo, told, about. */
public final class TellingTest {
    private static final int[] WRONG_FUNCTIONS = {-1, 2, 10, Integer.MIN_VALUE, Integer.MAX_VALUE};

    private static final Check check = new Check();

    public static void main(String[] args) {
        newObject();
        functions();
        calls();
        knownBits();
        undo();
        told();
        check.end();
    }

    private static void newObject() {
        RecursionProofs x = new RecursionProofs();
        check.same("NONE", RecursionProofs.NONE, -1);
        check.same("new: about(0)", x.about(0), 0);
        check.same("new: about(1)", x.about(1), 0);
        check.same("new: about(2)", x.about(2), -1);
        check.same("new: about(-1)", x.about(-1), -1);
        check.same("new: undo()", x.undo(), false);
        check.same("new: told(0, 0)", x.told(0, 0), -1);
        check.same("new: graphs(0, 0)", x.graphs(0, 0), -1);
        check.same("new: reached(0)", x.reached(0), -1);
        check.same("new: order(0, -1)", x.order(0, -1), -1);
        check.same("new: bad(0, -1)", x.bad(0, -1), -1);
        check.same("new: product(0, 1)", x.product(0, 1), -2);
        check.index("new: graph(0, 0, 0)", () -> x.graph(0, 0, 0));
        check.index("new: falls(0)", () -> x.falls(0) ? 1 : 0);
        check.index("new: isSafe(0)", () -> x.isSafe(0) ? 1 : 0);
        check.index("new: call(0, 0, 0)", () -> x.call(0, 0, 0));
    }

    private static void functions() {
        RecursionProofs x = new RecursionProofs();
        for (int places : new int[] {0, 5, -1, Integer.MIN_VALUE, Integer.MAX_VALUE}) {
            check.argument("function(" + places + ")", () -> x.function(places));
        }
        check.same("functions after wrong ones", x.about(0), 0);
        for (int f = 0; f < 10; f++) {
            check.same("function number", x.function(1 + f % 4), f);
            check.same("functions", x.about(0), f + 1);
        }
        check.state("11th function", () -> x.function(1));
        check.argument("11th function with 0 places", () -> x.function(0));
        check.argument("11th function with 5 places", () -> x.function(5));
        check.same("functions, full", x.about(0), 10);
        check.same("undo takes no function", x.undo(), false);
        check.same("functions after undo", x.about(0), 10);
        RecursionProofs y = new RecursionProofs();
        check.same("another object has its own", y.about(0), 0);
    }

    private static void calls() {
        RecursionProofs x = Check.withFunctions(1, 2);
        for (int f : WRONG_FUNCTIONS) {
            check.index("call(" + f + ", 0, 0)", () -> x.call(f, 0, 0));
            check.index("call(0, " + f + ", 0)", () -> x.call(0, f, 0));
        }
        check.same("calls after wrong ones", x.about(1), 0);
        for (int c = 0; c < 20; c++) {
            check.same("call number", x.call(c % 2, c / 2 % 2, c), c);
            check.same("calls", x.about(1), c + 1);
        }
        check.state("21st call", () -> x.call(0, 0, 0));
        check.index("21st call from no function", () -> x.call(2, 0, 0));
        check.index("21st call to no function", () -> x.call(0, -1, 0));
        check.same("calls, full", x.about(1), 20);
        check.same("undo, full", x.undo(), true);
        check.same("call 19 again", x.call(1, 1, 2), 19);
    }

    private static void knownBits() {
        int all = -1;
        int[] rowOfTwos = {0, 0x02, 0x0A, 0x2A, 0xAA};
        RecursionProofs x = Check.withFunctions(1, 2, 3, 4);
        for (int p = 1; p <= 4; p++) {
            for (int q = 1; q <= 4; q++) {
                int due = 0;
                for (int i = 0; i < p; i++) {
                    due |= rowOfTwos[q] << 8 * i;
                }
                int c = x.call(p - 1, q - 1, all);
                check.same("3 for 2, " + p + " to " + q, x.told(c, 2), due);
                x.undo();
            }
        }
        int mixed = Check.known("0123", "3210", "1302", "2031");
        int c = x.call(3, 3, mixed);
        check.same("mixed", x.told(c, 2), Check.known("0122", "2210", "1202", "2021"));
        c = x.call(2, 1, mixed);
        check.same("mixed, 3 to 2", x.told(c, 2), Check.known("01", "22", "12"));
        c = x.call(1, 2, mixed);
        check.same("mixed, 2 to 3", x.told(c, 2), Check.known("012", "221"));
    }

    private static void undo() {
        RecursionProofs x = Check.withFunctions(1);
        x.call(0, 0, 0);
        x.call(0, 0, 2);
        check.same("undo", x.undo(), true);
        check.same("calls after undo", x.about(1), 1);
        check.same("undone call", x.told(1, 0), -1);
        check.same("call left", x.told(0, 2), 0);
        check.same("number given again", x.call(0, 0, 1), 1);
        check.same("the new one is told", x.told(1, 2), 1);
        check.same("undo 1", x.undo(), true);
        check.same("undo 0", x.undo(), true);
        check.same("undo of none", x.undo(), false);
        check.same("calls, none", x.about(1), 0);
        check.same("answers forget undone calls", x.graphs(0, 0), 0);
    }

    private static void told() {
        RecursionProofs x = Check.withFunctions(2, 3, 1);
        x.call(0, 1, Check.known("012", "201"));
        x.call(2, 0, Check.known("21"));
        check.same("told(0, 0)", x.told(0, 0), 0);
        check.same("told(0, 1)", x.told(0, 1), 1);
        check.same("told(0, 2)", x.told(0, 2), Check.known("012", "201"));
        check.same("told(1, 0)", x.told(1, 0), 2);
        check.same("told(1, 1)", x.told(1, 1), 0);
        check.same("told(1, 2)", x.told(1, 2), Check.known("21"));
        for (int wrong : new int[] {-1, 3, Integer.MIN_VALUE, Integer.MAX_VALUE}) {
            check.same("told(0, " + wrong + ")", x.told(0, wrong), -1);
            check.same("told(" + wrong + ", 0)", x.told(wrong, 0), -1);
            check.same("about(" + wrong + ")", x.about(wrong), -1);
        }
        check.same("told(2, 0)", x.told(2, 0), -1);
        check.same("told(19, 2)", x.told(19, 2), -1);
        check.same("told(20, 2)", x.told(20, 2), -1);
        check.same("about(0)", x.about(0), 3);
        check.same("about(1)", x.about(1), 2);
    }
}
