/** Promise 13: product. */
public final class ProductTest {
    private static final int NO_ROW = RecursionProofs.NONE - 1;

    private static final Check check = new Check();

    public static void main(String[] args) {
        wrongRows();
        graphs();
        longRows();
        check.end();
    }

    private static void wrongRows() {
        RecursionProofs x = Check.withFunctions(1, 1);
        check.same("no calls", x.product(0, 1), NO_ROW);
        x.call(0, 1, 1);
        x.call(1, 0, 2);
        for (int many : new int[] {0, -1, 13, 60, Integer.MIN_VALUE, Integer.MAX_VALUE}) {
            check.same("many " + many, x.product(Check.row(0, 1, 0, 1), many), NO_ROW);
        }
        check.same("no such call, first", x.product(2, 1), NO_ROW);
        check.same("no such call, 31", x.product(31, 1), NO_ROW);
        check.same("no such call, later", x.product(Check.row(0, 2), 2), NO_ROW);
        check.same("no such call, 20", x.product(Check.row(0, 20), 2), NO_ROW);
        check.same("all bits", x.product(-1, 12), NO_ROW);
        check.same("no row", x.product(Check.row(0, 0), 2), NO_ROW);
        check.same("no row at the end", x.product(Check.row(0, 1, 1), 3), NO_ROW);
        check.same("numbers behind don't count", x.product(Check.row(0, 1, 1), 2), 2);
        check.same("wrong numbers behind don't count", x.product(-32L | 1, 1), 2);
        x.undo();
        check.same("undone", x.product(1, 1), NO_ROW);
    }

    private static void graphs() {
        RecursionProofs x = Check.withFunctions(1, 4, 2);
        x.call(0, 1, Check.known("1021"));
        x.call(1, 2, Check.known("10", "22", "01", "02"));
        x.call(2, 0, Check.known("1", "0"));
        x.call(1, 1, Check.known("1111", "1111", "1111", "1112"));
        check.same("one call", x.product(0, 1), Check.known("1021"));
        check.same("its known bits below 0", x.product(3, 1), x.told(3, 2));
        check.same("greatest over the places between", x.product(Check.row(0, 1), 2), Check.known("12"));
        check.same("round", x.product(Check.row(0, 1, 2), 3), 1);
        check.same("round again", x.product(Check.row(0, 1, 2, 0), 4), Check.known("1021"));
        check.same("from 2", x.product(Check.row(2, 0, 1), 3), Check.known("12", "00"));
        check.same("less through any place", x.product(Check.row(3, 3), 2),
                Check.known("1112", "1112", "1112", "2222"));
        check.same("1 and 2 through different places", x.product(Check.row(0, 3), 2), Check.known("2222"));
    }

    private static void longRows() {
        RecursionProofs x = Check.withFunctions(4);
        for (int c = 0; c < 19; c++) {
            x.call(0, 0, 0);
        }
        x.call(0, 0, Check.known("0100", "0010", "0001", "1000"));
        int[] calls = {19, 19, 19, 19, 19, 19, 19, 19, 19, 19, 19, 19};
        long row = Check.row(calls);
        check.same("twelve times round", x.product(row, 12), Check.known("1000", "0100", "0010", "0001"));
        check.same("eleven", x.product(row, 11), Check.known("0001", "1000", "0100", "0010"));
        check.same("twelve with the high bits set", x.product(row | 15L << 60, 12),
                Check.known("1000", "0100", "0010", "0001"));
        calls[11] = 18;
        check.same("the twelfth counts", x.product(Check.row(calls), 12), 0);
        calls[11] = 20;
        check.same("the twelfth is none", x.product(Check.row(calls), 12), NO_ROW);
    }
}
