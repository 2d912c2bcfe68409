/** Promise 12: reached. */
public final class ReachedTest {
    private static final Check check = new Check();

    public static void main(String[] args) {
        RecursionProofs x = Check.withFunctions(1, 2, 3, 4, 1, 2);
        for (int f : new int[] {-1, 6, 10, Integer.MIN_VALUE, Integer.MAX_VALUE}) {
            check.same("reached(" + f + ")", x.reached(f), -1);
        }
        check.same("no calls", x.reached(0), 0);
        x.call(3, 4, 0);
        x.call(2, 3, 0);
        x.call(0, 2, 0);
        check.same("through calls told in any order", x.reached(0), 1 << 2 | 1 << 3 | 1 << 4);
        check.same("not itself, unless a row leads back", x.reached(3), 1 << 4);
        check.same("the last one", x.reached(4), 0);
        check.same("aside", x.reached(1), 0);
        x.call(4, 0, 0);
        int ring = 1 | 1 << 2 | 1 << 3 | 1 << 4;
        for (int f : new int[] {0, 2, 3, 4}) {
            check.same("round a ring from " + f, x.reached(f), ring);
        }
        x.call(5, 5, 0);
        check.same("to itself alone", x.reached(5), 1 << 5);
        x.undo();
        x.undo();
        check.same("undo opens the ring", x.reached(0), ring & ~1);
        check.same("and the last", x.reached(5), 0);
        longChain();
        check.end();
    }

    /** The calls are told from the last to the first, the slowest way to follow them. */
    private static void longChain() {
        RecursionProofs x = Check.withFunctions(1, 1, 1, 1, 1, 1, 1, 1, 1, 1);
        x.call(9, 0, 0);
        for (int f = 8; f >= 0; f--) {
            x.call(f, f + 1, 0);
        }
        check.same("all ten", x.reached(0), 1023);
        check.same("all ten from 9", x.reached(9), 1023);
    }
}
