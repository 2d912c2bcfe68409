/** The example of README.md, line by line. */
public final class ReadmeTest {
    public static void main(String[] args) {
        Check check = new Check();
        RecursionProofs x = new RecursionProofs();
        int f = x.function(2);
        check.same("the function", f, 0);
        check.same("a call", x.call(f, f, 0b10), 0);
        check.same("it falls", x.falls(f), true);
        check.same("another call", x.call(f, f, 0b10 << 10), 1);
        check.same("it falls no more", x.falls(f), false);
        check.same("how many calls", x.bad(f, RecursionProofs.NONE), 2);
        check.same("the first", x.bad(f, 0), 0);
        check.same("the second", x.bad(f, 1), 1);
        check.same("their graph", x.product(0 | 1 << 5, 2), 0);
        check.same("undo", x.undo(), true);
        check.same("how many places", x.order(f, RecursionProofs.NONE), 1);
        check.same("the place", x.order(f, 0), 0);
        check.end();
    }
}
