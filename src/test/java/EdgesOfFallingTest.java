/** The edges of promises 8 to 10, and of the terms they stand on: a test for each sentence. */
public final class EdgesOfFallingTest {
    private static final int LOWEST = Integer.MIN_VALUE;
    private static final int HIGHEST = Integer.MAX_VALUE;
    /** With two functions made. */
    private static final int[] NO_FUNCTION = {-1, -2, 2, 9, 10, 11, 256, 65536, LOWEST, HIGHEST};

    private static final Check check = new Check();

    public static void main(String[] args) {
        noRowToItself();
        twoFromAPlaceToItself();
        twoToAnotherPlace();
        lessThanTwo();
        graphsThatAreNotTheirOwnSquare();
        eachGraphCounts();
        fallsOfNoFunction();
        safeItself();
        safeInAllReached();
        safeWhateverIsNotReached();
        isSafeOfNoFunction();
        lengthOfABadRow();
        noBadRowWhereItFalls();
        shortestOfAll();
        firstNumbersOfTheShortest();
        longestRows();
        callsOfABadRow();
        noSuchCallOfABadRow();
        badOfNoFunction();
        check.end();
    }

    private static void noRowToItself() {
        check.sentence("A function FALLS if each graph G of a row from it to itself ..: there is none");
        RecursionProofs x = Check.withFunctions(1, 4, 2);
        for (int f = 0; f < 3; f++) {
            check.same("no calls: " + f, x.falls(f), true);
            check.same("no calls, safe: " + f, x.isSafe(f), true);
        }
        x.call(0, 1, 0);
        x.call(1, 2, 0);
        x.call(0, 2, 0);
        for (int f = 0; f < 3; f++) {
            check.same("no way back: " + f, x.falls(f), true);
        }
        x.call(2, 2, 0);
        check.same("what it calls goes on for ever", x.falls(0), true);
        check.same("which is not its own fall", x.falls(2), false);
    }

    private static void twoFromAPlaceToItself() {
        check.sentence("has a 2 from some place to itself");
        RecursionProofs x = Check.withFunctions(1, 2, 3, 4);
        for (int p = 1; p <= 4; p++) {
            for (int i = 0; i < p; i++) {
                x.call(p - 1, p - 1, 2 << 10 * i);
                check.same("place " + i + " of " + p, x.falls(p - 1), true);
                x.undo();
            }
        }
    }

    private static void twoToAnotherPlace() {
        check.sentence("has a 2 from some place to itself: not to another one");
        RecursionProofs x = Check.withFunctions(4);
        for (int i = 0; i < 4; i++) {
            for (int j = 0; j < 4; j++) {
                if (i != j) {
                    x.call(0, 0, 1 << 10 * i | 2 << 8 * i + 2 * j);
                    check.same("from " + i + " to " + j, x.falls(0), false);
                    check.same("at once", x.bad(0, -1), 1);
                    x.undo();
                }
            }
        }
    }

    private static void lessThanTwo() {
        check.sentence("has a 2 from some place to itself: 0 and 1 are not enough");
        RecursionProofs x = Check.withFunctions(1, 4);
        for (int known = 0; known <= 3; known++) {
            x.call(0, 0, known);
            check.same("one place, " + known, x.falls(0), known >= 2);
            x.undo();
        }
        x.call(1, 1, Check.known("1111", "1111", "1111", "1111"));
        check.same("four places, all 1", x.falls(1), false);
        x.undo();
        x.call(1, 1, 0);
        check.same("four places, nothing", x.falls(1), false);
    }

    private static void graphsThatAreNotTheirOwnSquare() {
        check.sentence("for which G with G behind it is G again");
        RecursionProofs x = Check.withFunctions(2, 4);
        x.call(0, 0, Check.known("02", "10"));
        check.same("no 2 to itself in one call, but in two", x.falls(0), true);
        check.same("no bad row", x.bad(0, -1), 0);
        x.call(1, 1, Check.known("0100", "0010", "0001", "2000"));
        check.same("round four places, one falls", x.falls(1), true);
        x.undo();
        x.call(1, 1, Check.known("0100", "0010", "0001", "1000"));
        check.same("round four places, none falls", x.falls(1), false);
        check.same("only four times round is its own square", x.bad(1, -1), 4);
        x.undo();
        x.call(1, 1, Check.known("0200", "0020", "0002", "0000"));
        check.same("down to nothing", x.falls(1), false);
        check.same("only nothing is its own square", x.bad(1, -1), 4);
    }

    private static void eachGraphCounts() {
        check.sentence("each graph G of a row");
        RecursionProofs x = Check.withFunctions(1);
        for (int c = 0; c < 19; c++) {
            x.call(0, 0, 2);
        }
        check.same("19 that fall", x.falls(0), true);
        x.call(0, 0, 1);
        check.same("and one that does not", x.falls(0), false);
        x.undo();
        x.call(0, 0, 2);
        check.same("20 that fall", x.falls(0), true);

        RecursionProofs y = Check.withFunctions(2);
        y.call(0, 0, Check.known("20", "00"));
        check.same("the one alone", y.falls(0), true);
        y.undo();
        y.call(0, 0, Check.known("00", "02"));
        check.same("the other alone", y.falls(0), true);
        y.call(0, 0, Check.known("20", "00"));
        check.same("rows of both too", y.falls(0), false);
    }

    private static void fallsOfNoFunction() {
        check.sentence("falls: IndexOutOfBoundsException: there is none such");
        RecursionProofs none = new RecursionProofs();
        check.index("no functions at all", () -> none.falls(0) ? 1 : 0);
        RecursionProofs x = Check.withFunctions(1, 1);
        x.call(0, 1, 1);
        for (int f : NO_FUNCTION) {
            check.index("falls(" + f + ")", () -> x.falls(f) ? 1 : 0);
        }
        check.same("one that is there", x.falls(1), true);
        x.function(1);
        check.same("made since", x.falls(2), true);
    }

    private static void safeItself() {
        check.sentence("It is SAFE if .. itself");
        RecursionProofs x = Check.withFunctions(1, 1);
        check.same("without calls", x.isSafe(0), true);
        x.call(0, 0, 2);
        check.same("it falls", x.isSafe(0), true);
        x.call(0, 0, 1);
        check.same("it does not", x.isSafe(0), false);
        check.same("another one", x.isSafe(1), true);
    }

    private static void safeInAllReached() {
        check.sentence("It is SAFE if all that is reached from it .. fall");
        RecursionProofs x = Check.withFunctions(1, 1, 1, 1, 1, 1, 1, 1, 1, 1);
        for (int f = 0; f < 9; f++) {
            x.call(f, f + 1, 0);
        }
        check.same("nine calls on, all fall", x.isSafe(0), true);
        x.call(9, 9, 2);
        check.same("the last falls too", x.isSafe(0), true);
        x.call(9, 9, 0);
        for (int f = 0; f < 10; f++) {
            check.same("the last does not fall: falls(" + f + ")", x.falls(f), f < 9);
            check.same("the last does not fall: isSafe(" + f + ")", x.isSafe(f), false);
        }
        x.undo();
        check.same("undo makes it safe again", x.isSafe(0), true);
        x.call(5, 5, 1);
        check.same("one in the middle", x.isSafe(0), false);
        check.same("behind the middle", x.isSafe(6), true);
    }

    private static void safeWhateverIsNotReached() {
        check.sentence("It is SAFE if all that is reached from it ..: others don't matter");
        RecursionProofs x = Check.withFunctions(1, 1, 1);
        x.call(0, 0, 0);
        x.call(0, 1, 0);
        check.same("who calls it goes on for ever", x.isSafe(1), true);
        check.same("who calls it", x.isSafe(0), false);
        check.same("one aside", x.isSafe(2), true);
        RecursionProofs y = Check.withFunctions(1, 1, 1, 1, 1, 1, 1, 1, 1, 1);
        for (int f = 0; f < 10; f++) {
            y.call(f, f, f == 4 ? 2 : 1);
        }
        for (int f = 0; f < 10; f++) {
            check.same("all others go on for ever, aside: " + f, y.isSafe(f), f == 4);
        }
    }

    private static void isSafeOfNoFunction() {
        check.sentence("isSafe: IndexOutOfBoundsException: there is none such");
        RecursionProofs none = new RecursionProofs();
        check.index("no functions at all", () -> none.isSafe(0) ? 1 : 0);
        RecursionProofs x = Check.withFunctions(1, 1);
        x.call(0, 1, 1);
        for (int f : NO_FUNCTION) {
            check.index("isSafe(" + f + ")", () -> x.isSafe(f) ? 1 : 0);
        }
        check.same("one that is there", x.isSafe(1), true);
        x.function(1);
        check.same("made since", x.isSafe(2), true);
    }

    private static void lengthOfABadRow() {
        check.sentence("how many calls (i = NONE ..)");
        RecursionProofs x = Check.withFunctions(1, 1, 1);
        x.call(0, 1, 1);
        x.call(1, 2, 1);
        x.call(2, 0, 1);
        check.same("three", x.bad(0, RecursionProofs.NONE), 3);
        x.call(0, 0, 1);
        check.same("one", x.bad(0, RecursionProofs.NONE), 1);
        check.same("another's is its own", x.bad(1, RecursionProofs.NONE), 3);
    }

    private static void noBadRowWhereItFalls() {
        check.sentence("0 if it falls");
        RecursionProofs x = Check.withFunctions(1, 1);
        check.same("no calls", x.bad(0, -1), 0);
        check.same("no calls, call 0", x.bad(0, 0), -1);
        x.call(0, 0, 2);
        x.call(0, 1, 0);
        x.call(1, 1, 0);
        check.same("it calls one that does not fall", x.bad(0, -1), 0);
        for (int i : new int[] {0, 1, 2, -2, LOWEST, HIGHEST}) {
            check.same("call " + i + " of no row", x.bad(0, i), -1);
        }
    }

    private static void shortestOfAll() {
        check.sentence("of all rows from it to itself .. the shortest");
        RecursionProofs x = Check.withFunctions(2, 1);
        x.call(0, 0, Check.known("01", "10"));
        check.same("twice call 0", x.bad(0, -1), 2);
        x.call(0, 1, 0);
        x.call(1, 0, 0);
        check.same("0, 0 comes ahead of 1, 2", x.bad(0, 1), 0);
        x.call(0, 0, Check.known("20", "01"));
        check.same("a call that falls is none", x.bad(0, -1), 2);
        for (int c = 4; c < 19; c++) {
            x.call(0, 0, Check.known("20", "01"));
        }
        x.call(0, 0, Check.known("10", "00"));
        check.same("the shortest, though its number is the greatest", x.bad(0, -1), 1);
        check.same("its number", x.bad(0, 0), 19);
        x.undo();
        check.same("without it", x.bad(0, -1), 2);
    }

    private static void firstNumbersOfTheShortest() {
        check.sentence("of these the one whose numbers come first (the first call's least, and so on)");
        RecursionProofs x = Check.withFunctions(1);
        for (int c = 0; c < 20; c++) {
            x.call(0, 0, c < 7 ? 2 : c % 2);
        }
        check.same("of one call: the least that does not fall", x.bad(0, 0), 7);

        RecursionProofs y = Check.withFunctions(1, 1, 1);
        y.call(2, 0, 1);
        y.call(1, 0, 1);
        y.call(0, 2, 2);
        y.call(0, 1, 1);
        y.call(0, 2, 1);
        y.call(1, 0, 0);
        check.same("3, 1 comes ahead of 4, 0, for its first call", y.bad(0, 0), 3);
        check.same("3, 1 comes ahead of 3, 5, for its second", y.bad(0, 1), 1);

        RecursionProofs z = Check.withFunctions(3);
        z.call(0, 0, Check.known("200", "010", "000"));
        z.call(0, 0, Check.known("200", "000", "001"));
        z.call(0, 0, Check.known("000", "020", "002"));
        z.call(0, 0, Check.known("000", "020", "002"));
        check.same("0, 1, 2 has three calls", z.bad(0, -1), 3);
        for (int i = 0; i < 3; i++) {
            check.same("0, 1, 2 comes first of all: call " + i, z.bad(0, i), i);
        }
    }

    /** Ten functions one behind the other, four times round until each place is where it was. */
    private static void longestRows() {
        check.sentence("of all rows: longer ones too");
        RecursionProofs x = Check.withFunctions(4, 4, 4, 4, 4, 4, 4, 4, 4, 4);
        int same = Check.known("1000", "0100", "0010", "0001");
        for (int f = 0; f < 9; f++) {
            x.call(f, f + 1, same);
        }
        x.call(9, 0, Check.known("0100", "0010", "0001", "1000"));
        for (int f = 0; f < 10; f++) {
            check.same("from " + f, x.bad(f, -1), 40);
            check.same("from " + f + ", the first call", x.bad(f, 0), f);
            check.same("from " + f + ", the last call", x.bad(f, 39), (f + 9) % 10);
            check.same("from " + f + ", behind the last", x.bad(f, 40), -1);
        }
        for (int i = 0; i < 40; i++) {
            check.same("call " + i, x.bad(0, i), i % 10);
        }
    }

    private static void callsOfABadRow() {
        check.sentence("call i from 0 on");
        RecursionProofs x = Check.withFunctions(1, 1, 1, 1);
        x.call(3, 0, 1);
        x.call(0, 1, 1);
        x.call(2, 3, 1);
        x.call(1, 2, 1);
        int[] due = {1, 3, 2, 0};
        for (int i = 0; i < 4; i++) {
            check.same("from 0, call " + i, x.bad(0, i), due[i]);
            check.same("from 2, call " + i, x.bad(2, i), due[(i + 2) % 4]);
        }
    }

    private static void noSuchCallOfABadRow() {
        check.sentence("bad: NONE if there is none such");
        RecursionProofs x = Check.withFunctions(1, 1);
        x.call(0, 1, 1);
        x.call(1, 0, 1);
        check.same("the last", x.bad(0, 1), 1);
        for (int i : new int[] {2, 3, 20, 256, 799, 800, 65536, HIGHEST}) {
            check.same("call " + i, x.bad(0, i), -1);
        }
        for (int i : new int[] {-2, -3, -256, LOWEST, LOWEST + 1}) {
            check.same("call " + i, x.bad(0, i), -1);
        }
    }

    private static void badOfNoFunction() {
        check.sentence("bad: NONE .. no such function");
        RecursionProofs none = new RecursionProofs();
        RecursionProofs x = Check.withFunctions(1, 1);
        x.call(0, 0, 1);
        x.call(1, 1, 1);
        for (int i : new int[] {-1, 0, 1, -2, LOWEST, HIGHEST}) {
            check.same("no functions at all, " + i, none.bad(0, i), -1);
            for (int f : NO_FUNCTION) {
                check.same("bad(" + f + ", " + i + ")", x.bad(f, i), -1);
            }
        }
        check.same("one that is there", x.bad(1, -1), 1);
        x.function(1);
        check.same("made since", x.bad(2, -1), 0);
    }
}
