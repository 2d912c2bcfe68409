/** The edges of promises 1 to 5 and 14, and of the terms they stand on: a test for each sentence. */
public final class EdgesOfTellingTest {
    private static final int LOWEST = Integer.MIN_VALUE;
    private static final int HIGHEST = Integer.MAX_VALUE;

    private static final Check check = new Check();

    public static void main(String[] args) {
        lastOfAllCalls();
        functionsFrom0To9();
        oneToFourPlaces();
        callToItselfAndToOthers();
        callsFrom0To19();
        newObject();
        tooFewPlaces();
        tooManyPlaces();
        eleventhFunction();
        bitsOfEachPair();
        threeStandsForTwo();
        bitsOfPlacesThatAreNotThere();
        noSuchFunction();
        twentyFirstCall();
        latestCallGoes();
        undoWithoutCalls();
        toldFromAndTo();
        toldKnown();
        toldAnotherWhat();
        toldNoSuchCall();
        aboutFunctionsAndCalls();
        aboutAnotherWhat();
        check.end();
    }

    private static void lastOfAllCalls() {
        check.sentence("An object is used for at most 512 calls");
        RecursionProofs x = new RecursionProofs();
        x.function(1);
        for (int k = 0; k < 255; k++) {
            check.same("call in the middle of a long use", x.call(0, 0, 1), 0);
            check.same("undo in the middle of a long use", x.undo(), true);
        }
        check.same("the 512th call", x.call(0, 0, 1), 0);

        RecursionProofs y = new RecursionProofs();
        y.function(1);
        for (int k = 0; k < 170; k++) {
            y.call(0, 0, k % 3);
            check.same("falls in the middle of a long use", y.falls(0), k % 3 == 2);
            y.undo();
        }
        check.same("the 512th call, a question", y.falls(0), true);
    }

    private static void functionsFrom0To9() {
        check.sentence("FUNCTIONS 0 .. 9");
        RecursionProofs x = new RecursionProofs();
        for (int f = 0; f < 10; f++) {
            check.same("the next function", x.function(1), f);
        }
        check.same("a call from the last to the first", x.call(9, 0, 2), 0);
        check.same("a call from the first to the last", x.call(0, 9, 2), 1);
        check.same("from the last", x.told(0, 0), 9);
        check.same("to the last", x.told(1, 1), 9);
    }

    private static void oneToFourPlaces() {
        check.sentence("each with 1 to 4 PLACES");
        RecursionProofs x = new RecursionProofs();
        check.same("1 place", x.function(1), 0);
        check.same("4 places", x.function(4), 1);
        check.same("2 places", x.function(2), 2);
        check.same("3 places", x.function(3), 3);
        x.call(0, 0, 2);
        x.call(1, 1, 2 << 30);
        check.same("the only place is there", x.told(0, 2), 2);
        check.same("the fourth place is there", x.told(1, 2), 2 << 30);
    }

    private static void callToItselfAndToOthers() {
        check.sentence("A CALL, from a function to one (perhaps itself)");
        RecursionProofs x = Check.withFunctions(1, 1);
        for (int from = 0; from < 2; from++) {
            for (int to = 0; to < 2; to++) {
                int c = x.call(from, to, 1);
                check.same("from", x.told(c, 0), from);
                check.same("to", x.told(c, 1), to);
            }
        }
    }

    private static void callsFrom0To19() {
        check.sentence("Calls, at most 20, are numbered from 0 on");
        RecursionProofs x = Check.withFunctions(4);
        for (int c = 0; c < 20; c++) {
            check.same("the next call", x.call(0, 0, c), c);
        }
        check.same("the last one is there", x.told(19, 0), 0);
    }

    private static void newObject() {
        check.sentence("No functions");
        RecursionProofs x = new RecursionProofs();
        check.same("functions", x.about(0), 0);
        check.same("calls", x.about(1), 0);
        check.same("reached(0)", x.reached(0), -1);
        check.same("graphs(0, 0)", x.graphs(0, 0), -1);
        check.same("order(0, -1)", x.order(0, -1), -1);
        check.same("bad(0, -1)", x.bad(0, -1), -1);
        check.index("falls(0)", () -> x.falls(0) ? 1 : 0);
        check.index("isSafe(0)", () -> x.isSafe(0) ? 1 : 0);
        check.index("call(0, 0, 0)", () -> x.call(0, 0, 0));
        Check.withFunctions(1, 2).call(0, 1, 1);
        check.same("another object changes nothing here", x.about(0), 0);
        check.same("nor its calls", new RecursionProofs().about(1), 0);
    }

    private static void tooFewPlaces() {
        check.sentence("IllegalArgumentException: places are not 1 .. 4 (too few)");
        refusedPlaces(0, -1, -4, LOWEST, LOWEST + 1);
    }

    private static void tooManyPlaces() {
        check.sentence("IllegalArgumentException: places are not 1 .. 4 (too many)");
        refusedPlaces(5, 6, 16, 257, 65537, HIGHEST);
    }

    private static void refusedPlaces(int... wrong) {
        RecursionProofs x = new RecursionProofs();
        for (int places : wrong) {
            check.argument("function(" + places + ")", () -> x.function(places));
            check.same("functions after it was refused", x.about(0), 0);
        }
        check.same("the next one that is right", x.function(4), 0);
        check.argument("and then a wrong one", () -> x.function(wrong[0]));
        check.same("functions then", x.about(0), 1);
        check.same("the next one", x.function(1), 1);
    }

    private static void eleventhFunction() {
        check.sentence("IllegalStateException: there are 10");
        RecursionProofs x = Check.withFunctions(1, 1, 1, 1, 1, 1, 1, 1, 1);
        check.same("the tenth is taken", x.function(2), 9);
        x.call(9, 9, Check.known("20", "01"));
        for (int places = 1; places <= 4; places++) {
            int wanted = places;
            check.state("the eleventh, with " + places, () -> x.function(wanted));
        }
        check.same("functions", x.about(0), 10);
        check.same("calls", x.about(1), 1);
        check.same("the tenth keeps its places", x.told(x.call(9, 9, -1), 2), Check.known("22", "22"));
        x.undo();
        check.same("the tenth keeps its answers", x.falls(9), true);
        check.same("there is no function 10", x.reached(10), -1);
        x.undo();
        check.state("there are 10 after undo too", () -> x.function(1));
    }

    private static void bitsOfEachPair() {
        check.sentence("of the first's place i and the second's place j the bits 8 i + 2 j and the next one");
        RecursionProofs x = Check.withFunctions(4, 4, 1);
        for (int i = 0; i < 4; i++) {
            for (int j = 0; j < 4; j++) {
                // only the value from i to j leads from the place marked ahead to the one marked behind
                for (int value = 0; value < 3; value++) {
                    x.call(2, 0, 1 << 2 * i);
                    x.call(0, 1, value << 8 * i + 2 * j);
                    x.call(1, 2, 1 << 8 * j);
                    String what = value + " from " + i + " to " + j;
                    check.same(what, x.product(Check.row(0, 1, 2), 3), value);
                    check.same(what + ", told", x.told(1, 2), value << 8 * i + 2 * j);
                    x.undo();
                    x.undo();
                    x.undo();
                }
            }
        }
    }

    private static void threeStandsForTwo() {
        check.sentence("3 stands for 2");
        RecursionProofs x = Check.withFunctions(4, 1);
        for (int pair = 0; pair < 16; pair++) {
            int c = x.call(0, 0, 3 << 2 * pair);
            check.same("a 3 in pair " + pair, x.told(c, 2), 2 << 2 * pair);
            x.undo();
        }
        x.call(0, 0, -1);
        check.same("all of them", x.told(0, 2), 0xAAAAAAAA);
        x.call(1, 1, 3);
        x.call(1, 1, 2);
        check.same("3 and 2 are one graph", x.graphs(1, 1), 1);
        check.same("3 falls as 2 does", x.falls(1), true);
        check.same("3 makes an order as 2 does", x.order(1, 0), 0);
    }

    private static void bitsOfPlacesThatAreNotThere() {
        check.sentence("bits of places that are not there don't count");
        for (int p = 1; p <= 4; p++) {
            RecursionProofs y = Check.withFunctions(1, 2, 3, 4);
            for (int q = 1; q <= 4; q++) {
                for (int pair = 0; pair < 16; pair++) {
                    boolean there = pair / 4 < p && pair % 4 < q;
                    int c = y.call(p - 1, q - 1, 1 << 2 * pair);
                    check.same("pair " + pair + " of " + p + " and " + q, y.told(c, 2),
                            there ? 1 << 2 * pair : 0);
                    y.undo();
                }
            }
        }
        RecursionProofs x = Check.withFunctions(1, 2, 3, 4);
        x.call(0, 0, ~3);
        x.call(0, 0, 0);
        check.same("not as another graph", x.graphs(0, 0), 1);
        check.same("not for what falls", x.falls(0), false);
        check.same("not for an order", x.order(0, -1), -1);
        check.same("not for a product", x.product(0, 1), 0);
        x.call(0, 3, -1);
        x.call(3, 0, -1);
        check.same("not of what is ahead or behind", x.product(Check.row(2, 3), 2), 2);
        x.call(0, 3, ~Check.known("3333"));
        check.same("not of what is between", x.product(Check.row(3, 4), 2), 0);
    }

    private static void noSuchFunction() {
        check.sentence("IndexOutOfBoundsException: no such function");
        RecursionProofs x = Check.withFunctions(1, 1);
        for (int f : new int[] {-1, 2, 9, 10, 256, 65536, LOWEST, HIGHEST}) {
            check.index("from " + f, () -> x.call(f, 0, 1));
            check.index("to " + f, () -> x.call(0, f, 1));
            check.index("from and to " + f, () -> x.call(f, f, 1));
        }
        check.same("calls after these were refused", x.about(1), 0);
        check.same("nothing to undo", x.undo(), false);
        x.function(1);
        check.same("once it is made it is there", x.call(2, 2, 1), 0);
    }

    private static void twentyFirstCall() {
        check.sentence("IllegalStateException: there are 20");
        RecursionProofs x = Check.withFunctions(1, 1);
        for (int c = 0; c < 19; c++) {
            x.call(0, 0, 2);
        }
        check.same("the twentieth is taken", x.call(0, 1, 1), 19);
        check.same("reached ahead of a refused call", x.reached(1), 0);
        check.state("the 21st", () -> x.call(1, 1, 0));
        check.state("the 21st again", () -> x.call(0, 0, 0));
        check.same("calls", x.about(1), 20);
        check.same("no call 20", x.told(20, 0), -1);
        check.same("call 19 stays: from", x.told(19, 0), 0);
        check.same("call 19 stays: to", x.told(19, 1), 1);
        check.same("call 19 stays: known", x.told(19, 2), 1);
        check.same("call 0 stays", x.told(0, 2), 2);
        check.same("nothing more is reached", x.reached(1), 0);
        check.same("what fell still falls", x.falls(0), true);
        check.same("undo takes the 20th", x.undo(), true);
        check.same("then there is room for one", x.call(1, 1, 2), 19);
        check.state("and no more", () -> x.call(1, 1, 2));
    }

    private static void latestCallGoes() {
        check.sentence("The latest call goes");
        RecursionProofs x = Check.withFunctions(1, 1);
        x.call(0, 1, 1);
        x.call(1, 0, 2);
        x.call(0, 0, 0);
        check.same("with the latest", x.falls(0), false);
        check.same("undo", x.undo(), true);
        check.same("calls left", x.about(1), 2);
        check.same("functions left", x.about(0), 2);
        check.same("the latest is gone", x.told(2, 0), -1);
        check.same("the one ahead is there", x.told(1, 2), 2);
        check.same("the first is there", x.told(0, 2), 1);
        check.same("without the latest", x.falls(0), true);
        check.index("a refused call is not the latest", () -> x.call(0, 2, 0));
        check.same("undo again", x.undo(), true);
        check.same("the one ahead is gone", x.told(1, 0), -1);
        check.same("no way back is left", x.reached(1), 0);
        check.same("its number is given again", x.call(1, 1, 1), 1);
        check.same("to another call", x.told(1, 1), 1);
    }

    private static void undoWithoutCalls() {
        check.sentence("whether there was one");
        RecursionProofs x = new RecursionProofs();
        check.same("nothing at all", x.undo(), false);
        x.function(3);
        check.same("a function, but no call", x.undo(), false);
        check.same("the function stays", x.about(0), 1);
        for (int c = 0; c < 20; c++) {
            x.call(0, 0, 1);
        }
        for (int c = 19; c >= 0; c--) {
            check.same("undo of call " + c, x.undo(), true);
            check.same("calls left", x.about(1), c);
        }
        check.same("all are undone", x.undo(), false);
        check.same("and again", x.undo(), false);
        check.same("no calls", x.about(1), 0);
        check.same("the first number comes again", x.call(0, 0, 2), 0);
    }

    private static void toldFromAndTo() {
        check.sentence("Of a call: from (what = 0), to (1)");
        RecursionProofs x = Check.withFunctions(1, 2, 3, 4, 1, 2, 3, 4, 1, 2);
        for (int c = 0; c < 20; c++) {
            x.call(c % 10, 9 - c / 2, 0);
        }
        for (int c = 0; c < 20; c++) {
            check.same("from of " + c, x.told(c, 0), c % 10);
            check.same("to of " + c, x.told(c, 1), 9 - c / 2);
        }
    }

    private static void toldKnown() {
        check.sentence("what is known (2; bits as told, 2 for 3, 0 of places that are not there)");
        RecursionProofs x = Check.withFunctions(4, 3, 1);
        x.call(0, 0, 0);
        x.call(0, 0, Check.known("2222", "2222", "2222", "2222"));
        x.call(0, 1, Check.known("0123", "1230", "2301", "3012"));
        x.call(1, 0, Check.known("0123", "1230", "2301", "3012"));
        x.call(2, 2, -1);
        check.same("nothing", x.told(0, 2), 0);
        check.same("everything, a number below 0", x.told(1, 2), 0xAAAAAAAA);
        check.same("4 to 3", x.told(2, 2), Check.known("012", "122", "220", "201"));
        check.same("3 to 4", x.told(3, 2), Check.known("0122", "1220", "2201"));
        check.same("1 to 1", x.told(4, 2), 2);
    }

    private static void toldAnotherWhat() {
        check.sentence("NONE for another what");
        RecursionProofs x = Check.withFunctions(1);
        x.call(0, 0, 2);
        for (int what : new int[] {-1, -2, 3, 4, 256, 65538, LOWEST, HIGHEST}) {
            check.same("told(0, " + what + ")", x.told(0, what), -1);
        }
    }

    private static void toldNoSuchCall() {
        check.sentence("NONE .. if there is no such call");
        RecursionProofs x = Check.withFunctions(1);
        check.same("no calls at all", x.told(0, 0), -1);
        x.call(0, 0, 2);
        x.call(0, 0, 2);
        for (int call : new int[] {-1, -2, 2, 19, 20, 31, 32, 256, 65536, LOWEST, HIGHEST}) {
            for (int what = -1; what <= 3; what++) {
                check.same("told(" + call + ", " + what + ")", x.told(call, what), -1);
            }
        }
        x.undo();
        check.same("an undone call", x.told(1, 2), -1);
        for (int c = 1; c < 20; c++) {
            x.call(0, 0, 1);
        }
        check.same("behind the last of 20", x.told(20, 2), -1);
        check.same("the last of 20", x.told(19, 2), 1);
    }

    private static void aboutFunctionsAndCalls() {
        check.sentence("Functions, calls: what 0, 1");
        RecursionProofs x = new RecursionProofs();
        for (int f = 0; f < 10; f++) {
            check.same("functions", x.about(0), f);
            check.same("no calls yet", x.about(1), 0);
            x.function(1 + f % 4);
        }
        for (int c = 0; c < 20; c++) {
            check.same("calls", x.about(1), c);
            x.call(c % 10, 0, 1);
        }
        check.same("all functions", x.about(0), 10);
        check.same("all calls", x.about(1), 20);
    }

    private static void aboutAnotherWhat() {
        check.sentence("NONE for another what");
        for (RecursionProofs x : new RecursionProofs[] {new RecursionProofs(), Check.withFunctions(1)}) {
            for (int what : new int[] {-1, -2, 2, 3, 256, 65536, LOWEST, HIGHEST}) {
                check.same("about(" + what + ")", x.about(what), -1);
            }
        }
    }
}
