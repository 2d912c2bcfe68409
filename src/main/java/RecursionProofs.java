import java.util.Arrays;

/**
 * Recursion that must fall: functions, calls with what is known of sizes, which functions can't go
 * on without end for that alone, and rows of calls that show where nothing falls.
 */
public final class RecursionProofs {
    public static final int NONE = -1;

    private static final int MOST_FUNCTIONS = 10;
    private static final int MOST_PLACES = 4;
    private static final int MOST_CALLS = 20;
    private static final int MOST_GRAPHS = 800;
    private static final int LONGEST_PRODUCT = 12;
    private static final int BITS_OF_A_NUMBER = 5;
    private static final int NO_PRODUCT = NONE - 1;

    private final Program program;
    private final Closure closure;
    private final Order placeOrder;

    public RecursionProofs() {
        program = new Program();
        closure = new Closure();
        placeOrder = new Order();
    }

    public int function(int places) throws IllegalArgumentException, IllegalStateException {
        if (places < 1 || places > MOST_PLACES) {
            throw new IllegalArgumentException("places are not 1 .. 4");
        }
        if (program.functions >= MOST_FUNCTIONS) {
            throw new IllegalStateException("there are 10 functions");
        }
        closure.forget();
        return program.addFunction(places);
    }

    public int call(int from, int to, int known)
            throws IndexOutOfBoundsException, IllegalStateException {
        if (!program.hasFunction(from) || !program.hasFunction(to)) {
            throw new IndexOutOfBoundsException("no such function");
        }
        if (program.calls >= MOST_CALLS) {
            throw new IllegalStateException("there are 20 calls");
        }
        closure.forget();
        return program.addCall(from, to, known);
    }

    public boolean undo() {
        if (program.calls <= 0) {
            return false;
        }
        closure.forget();
        program.calls--;
        return true;
    }

    public int told(int call, int what) {
        if (!program.hasCall(call)) {
            return NONE;
        }
        switch (what) {
            case 0:
                return program.from[call];
            case 1:
                return program.to[call];
            case 2:
                return program.known[call];
            default:
                return NONE;
        }
    }

    public int graphs(int from, int to) throws UnsupportedOperationException {
        if (!program.hasFunction(from) || !program.hasFunction(to)) {
            return NONE;
        }
        needClosure();
        return closure.countGraphs(from, to);
    }

    public int graph(int from, int to, int k)
            throws IndexOutOfBoundsException, UnsupportedOperationException {
        if (!program.hasFunction(from) || !program.hasFunction(to)) {
            throw new IndexOutOfBoundsException("no such function");
        }
        needClosure();
        if (k < 0 || k >= closure.countGraphs(from, to)) {
            throw new IndexOutOfBoundsException("no such graph");
        }
        return closure.graphInOrder(from, to, k);
    }

    public boolean falls(int f) throws IndexOutOfBoundsException, UnsupportedOperationException {
        if (!program.hasFunction(f)) {
            throw new IndexOutOfBoundsException("no such function");
        }
        needClosure();
        return closure.badRow[f] == NONE;
    }

    public boolean isSafe(int f) throws IndexOutOfBoundsException, UnsupportedOperationException {
        if (!program.hasFunction(f)) {
            throw new IndexOutOfBoundsException("no such function");
        }
        needClosure();
        int all = program.reachedFrom(f) | 1 << f;
        for (int g = 0; g < program.functions; g++) {
            if ((all >>> g & 1) != 0 && closure.badRow[g] != NONE) {
                return false;
            }
        }
        return true;
    }

    public int bad(int f, int i) throws UnsupportedOperationException {
        if (!program.hasFunction(f)) {
            return NONE;
        }
        needClosure();
        int length = closure.lengthOf(closure.badRow[f]);
        if (i == NONE) {
            return length;
        }
        if (i < 0 || i >= length) {
            return NONE;
        }
        return closure.callFromTheEnd(closure.badRow[f], length - 1 - i);
    }

    public int order(int f, int i) {
        if (!program.hasFunction(f)) {
            return NONE;
        }
        placeOrder.find(program, f);
        if (i == NONE) {
            return placeOrder.many;
        }
        if (i < 0 || i >= placeOrder.many) {
            return NONE;
        }
        return placeOrder.taken[i];
    }

    public int reached(int f) {
        return program.hasFunction(f) ? program.reachedFrom(f) : NONE;
    }

    public int product(long row, int many) {
        if (many < 1 || many > LONGEST_PRODUCT) {
            return NO_PRODUCT;
        }
        int call = numberInRow(row, 0);
        if (!program.hasCall(call)) {
            return NO_PRODUCT;
        }
        int bits = program.known[call];
        for (int k = 1; k < many; k++) {
            int next = numberInRow(row, k);
            if (!program.hasCall(next) || program.from[next] != program.to[call]) {
                return NO_PRODUCT;
            }
            bits = Graph.join(bits, program.known[next]);
            call = next;
        }
        return bits;
    }

    public int about(int what) {
        switch (what) {
            case 0:
                return program.functions;
            case 1:
                return program.calls;
            default:
                return NONE;
        }
    }

    private void needClosure() {
        closure.gather(program);
        if (closure.tooMany) {
            throw new UnsupportedOperationException("there are more than 800 graphs");
        }
    }

    private static int numberInRow(long row, int k) {
        return (int) (row >>> BITS_OF_A_NUMBER * k) & (1 << BITS_OF_A_NUMBER) - 1;
    }

    /**
     * Graphs as bits: a byte for each place of the first function, two bits in it for each place of
     * the second.
     */
    private static final class Graph {
        static final int EVERY_ROW = 0x01010101;
        static final int EVERY_LOW_BIT = 0x55555555;
        static final int TWO_FROM_A_PLACE_TO_ITSELF = 0x80200802;

        static int clean(int known, int firstPlaces, int secondPlaces) {
            int row = (1 << 2 * secondPlaces) - 1;
            int there = 0;
            for (int i = 0; i < firstPlaces; i++) {
                there |= row << 8 * i;
            }
            return threesAsTwos(known & there);
        }

        static int threesAsTwos(int bits) {
            return bits & ~(bits >>> 1 & EVERY_LOW_BIT);
        }

        static int at(int bits, int i, int j) {
            return bits >>> 8 * i + 2 * j & 3;
        }

        /**
         * The graph of a and then b. All rows of a are done at once: a mask with a 1 in the lowest
         * bit of some bytes, times one row of b, lays that row into just these bytes. A 1 and a 2
         * that meet make a 3, so the greatest comes out when threes become twos.
         */
        static int join(int a, int b) {
            int both = 0;
            for (int j = 0; j < MOST_PLACES; j++) {
                int row = b >>> 8 * j & 0xFF;
                int rowOfTwos = ((row | row >>> 1) & EVERY_LOW_BIT) << 1;
                int ones = a >>> 2 * j & EVERY_ROW;
                int twos = a >>> 2 * j + 1 & EVERY_ROW;
                both |= ones * row | twos * rowOfTwos;
            }
            return threesAsTwos(both);
        }

        /** Of a graph from a function to itself: whether it can come again for ever, no size falling. */
        static boolean isBad(int bits) {
            return (bits & TWO_FROM_A_PLACE_TO_ITSELF) == 0 && join(bits, bits) == bits;
        }
    }

    /** The functions and the calls, as they were told. */
    private static final class Program {
        final int[] placesOf = new int[MOST_FUNCTIONS];
        final int[] from = new int[MOST_CALLS];
        final int[] to = new int[MOST_CALLS];
        final int[] known = new int[MOST_CALLS];
        int functions;
        int calls;

        boolean hasFunction(int f) {
            return f >= 0 && f < functions;
        }

        boolean hasCall(int c) {
            return c >= 0 && c < calls;
        }

        int addFunction(int places) {
            if (functions >= MOST_FUNCTIONS) {
                return NONE;
            }
            placesOf[functions] = places;
            functions++;
            return functions - 1;
        }

        int addCall(int first, int second, int bits) {
            if (calls >= MOST_CALLS || !hasFunction(first) || !hasFunction(second)) {
                return NONE;
            }
            from[calls] = first;
            to[calls] = second;
            known[calls] = Graph.clean(bits, placesOf[first], placesOf[second]);
            calls++;
            return calls - 1;
        }

        /** As bits. A row without a call too many is no longer than there are functions. */
        int reachedFrom(int f) {
            int seen = 0;
            for (int length = 1; length <= functions; length++) {
                for (int c = 0; c < calls; c++) {
                    if (from[c] == f || (seen >>> from[c] & 1) != 0) {
                        seen |= 1 << to[c];
                    }
                }
            }
            return seen;
        }
    }

    /**
     * All different graphs of rows, those from one function side by side. Each is kept with the row
     * that first led to it. As rows grow by one call at a time, the earlier row first and the lesser
     * call first, that row is the shortest with this graph, and of the shortest the one whose
     * numbers come first.
     */
    private static final class Closure {
        static final int CHAINS_LOG = 8;
        static final int SCATTER = 0x9E3779B1;

        final int[] bits = new int[MOST_GRAPHS];
        final int[] end = new int[MOST_GRAPHS];
        final int[] ahead = new int[MOST_GRAPHS];
        final int[] lastCall = new int[MOST_GRAPHS];
        final int[] nextInChain = new int[MOST_GRAPHS];
        final int[] chains = new int[1 << CHAINS_LOG];
        final int[] start = new int[MOST_FUNCTIONS + 1];
        final int[] badRow = new int[MOST_FUNCTIONS];
        int count;
        boolean tooMany;
        boolean gathered;

        void forget() {
            gathered = false;
        }

        void gather(Program program) {
            if (gathered) {
                return;
            }
            count = 0;
            tooMany = false;
            for (int f = 0; f < program.functions && !tooMany; f++) {
                start[f] = count;
                gatherFrom(program, f);
                start[f + 1] = count;
                badRow[f] = firstBad(f);
            }
            gathered = true;
        }

        private void gatherFrom(Program program, int f) {
            Arrays.fill(chains, NONE);
            for (int c = 0; c < program.calls; c++) {
                if (program.from[c] == f) {
                    keep(program.known[c], program.to[c], NONE, c);
                }
            }
            for (int row = start[f]; row < MOST_GRAPHS && row < count && !tooMany; row++) {
                for (int c = 0; c < program.calls; c++) {
                    if (program.from[c] == end[row]) {
                        keep(Graph.join(bits[row], program.known[c]), program.to[c], row, c);
                    }
                }
            }
        }

        private void keep(int graph, int to, int rowAhead, int call) {
            int chain = (graph + to) * SCATTER >>> 32 - CHAINS_LOG;
            if (isKept(chain, graph, to)) {
                return;
            }
            if (count >= MOST_GRAPHS) {
                tooMany = true;
                return;
            }
            bits[count] = graph;
            end[count] = to;
            ahead[count] = rowAhead;
            lastCall[count] = call;
            nextInChain[count] = chains[chain];
            chains[chain] = count;
            count++;
        }

        private boolean isKept(int chain, int graph, int to) {
            int row = chains[chain];
            for (int steps = 0; steps < MOST_GRAPHS && hasRow(row); steps++) {
                if (bits[row] == graph && end[row] == to) {
                    return true;
                }
                row = nextInChain[row];
            }
            return false;
        }

        private int firstBad(int f) {
            for (int row = start[f]; row < start[f + 1]; row++) {
                if (end[row] == f && Graph.isBad(bits[row])) {
                    return row;
                }
            }
            return NONE;
        }

        private boolean hasRow(int row) {
            return row >= 0 && row < count;
        }

        int countGraphs(int from, int to) {
            return countAlike(from, to, 0, 0);
        }

        private int countAlike(int from, int to, int mask, int masked) {
            int many = 0;
            for (int row = start[from]; row < start[from + 1]; row++) {
                if (end[row] == to && (bits[row] & mask) == masked) {
                    many++;
                }
            }
            return many;
        }

        /** Finds the bits one by one, the highest first, so that nothing needs to be sorted. */
        int graphInOrder(int from, int to, int k) {
            int left = k;
            int mask = 0;
            int found = 0;
            for (int b = 31; b >= 0; b--) {
                mask |= 1 << b;
                int withZero = countAlike(from, to, mask, found);
                if (left >= withZero) {
                    left -= withZero;
                    found |= 1 << b;
                }
            }
            return found;
        }

        int lengthOf(int row) {
            int length = 0;
            int at = row;
            while (length < MOST_GRAPHS && hasRow(at)) {
                at = ahead[at];
                length++;
            }
            return length;
        }

        int callFromTheEnd(int row, int back) {
            int at = row;
            for (int k = 0; k < back && hasRow(at); k++) {
                at = ahead[at];
            }
            return hasRow(at) ? lastCall[at] : NONE;
        }
    }

    /** The order of one function's places, found anew each time it is asked for. */
    private static final class Order {
        final int[] taken = new int[MOST_PLACES];
        int many;

        void find(Program program, int f) {
            int open = callsToItself(program, f);
            many = 0;
            while (open != 0 && many < MOST_PLACES) {
                int place = nextPlace(program, f, open);
                if (place == NONE) {
                    break;
                }
                taken[many] = place;
                many++;
                open &= ~callsWhereLess(program, place);
            }
            if (open != 0) {
                many = NONE;
            }
        }

        private static int callsToItself(Program program, int f) {
            int found = 0;
            for (int c = 0; c < program.calls; c++) {
                if (program.from[c] == f && program.to[c] == f) {
                    found |= 1 << c;
                }
            }
            return found;
        }

        private static int callsWhereLess(Program program, int place) {
            int found = 0;
            for (int c = 0; c < program.calls; c++) {
                if (Graph.at(program.known[c], place, place) == 2) {
                    found |= 1 << c;
                }
            }
            return found;
        }

        /** A place taken before has 2 in no open call, so it never comes again. */
        private static int nextPlace(Program program, int f, int open) {
            for (int place = 0; place < program.placesOf[f]; place++) {
                int least = 2;
                int greatest = 0;
                for (int c = 0; c < program.calls; c++) {
                    if ((open >>> c & 1) != 0) {
                        int value = Graph.at(program.known[c], place, place);
                        least = Math.min(least, value);
                        greatest = Math.max(greatest, value);
                    }
                }
                if (least >= 1 && greatest == 2) {
                    return place;
                }
            }
            return NONE;
        }
    }
}
