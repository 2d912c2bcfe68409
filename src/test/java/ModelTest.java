import java.util.ArrayList;
import java.util.List;
import java.util.Random;
import java.util.TreeSet;

/**
 * All promises: runs of calls, the same each time, with every answer held against a model that
 * follows the document's words in the plainest way.
 */
public final class ModelTest {
    private static final int RUNS = 1500;
    private static final int CALLS_OF_A_RUN = 512;
    private static final int CALLS_OF_A_QUESTION = 64;
    private static final int WORDS_TRIED = 20000;

    private static final Check check = new Check();

    public static void main(String[] args) {
        for (int run = 0; run < RUNS; run++) {
            new Run(run).go();
        }
        System.out.println(Run.tooManySeen + " asked beyond 800 graphs, " + Run.longestBad
                + " calls in the longest bad row, " + Run.orders + " orders of more than one place");
        check.same("beyond 800 was tried", Run.tooManySeen > 100, true);
        check.same("long bad rows were tried", Run.longestBad >= 6, true);
        check.same("orders were tried", Run.orders > 100, true);
        check.end();
    }

    private static final class Call {
        final int from;
        final int to;
        final int[][] known;

        Call(int from, int to, int[][] known) {
            this.from = from;
            this.to = to;
            this.known = known;
        }
    }

    private static final class Model {
        final List<Integer> places = new ArrayList<>();
        final List<Call> calls = new ArrayList<>();
        /** By from and to: the bits of graphs without sign, so that they sort as the document says. */
        List<TreeSet<Long>> graphs;
        boolean tooMany;

        boolean has(int f) {
            return f >= 0 && f < places.size();
        }

        void changed() {
            graphs = null;
        }

        static int[][] values(int bits, int p, int q) {
            int[][] v = new int[p][q];
            for (int i = 0; i < p; i++) {
                for (int j = 0; j < q; j++) {
                    v[i][j] = Math.min(2, bits >> 8 * i + 2 * j & 3);
                }
            }
            return v;
        }

        static int bits(int[][] v) {
            int bits = 0;
            for (int i = 0; i < v.length; i++) {
                for (int j = 0; j < v[i].length; j++) {
                    bits |= v[i][j] << 8 * i + 2 * j;
                }
            }
            return bits;
        }

        static int[][] join(int[][] a, int[][] b) {
            int[][] v = new int[a.length][b[0].length];
            for (int i = 0; i < a.length; i++) {
                for (int k = 0; k < b[0].length; k++) {
                    for (int j = 0; j < b.length; j++) {
                        boolean nothing = a[i][j] == 0 || b[j][k] == 0;
                        int through = nothing ? 0 : Math.max(a[i][j], b[j][k]);
                        v[i][k] = Math.max(v[i][k], through);
                    }
                }
            }
            return v;
        }

        static boolean isBad(int[][] g) {
            for (int i = 0; i < g.length; i++) {
                if (g[i][i] == 2) {
                    return false;
                }
            }
            return bits(join(g, g)) == bits(g);
        }

        /** Rows grow at their front here, and at their end in the program. */
        void gather() {
            if (graphs != null) {
                return;
            }
            graphs = new ArrayList<>();
            for (int k = 0; k < 100; k++) {
                graphs.add(new TreeSet<>());
            }
            tooMany = false;
            List<Call> found = new ArrayList<>();
            for (Call c : calls) {
                keep(c, found);
            }
            for (int k = 0; k < found.size() && !tooMany; k++) {
                Call g = found.get(k);
                for (Call c : calls) {
                    if (c.to == g.from) {
                        keep(new Call(c.from, g.to, join(c.known, g.known)), found);
                    }
                }
            }
        }

        private void keep(Call g, List<Call> found) {
            if (graphs.get(10 * g.from + g.to).add(bits(g.known) & 0xFFFFFFFFL)) {
                found.add(g);
                tooMany |= found.size() > 800;
            }
        }

        boolean falls(int f) {
            for (long g : graphs.get(11 * f)) {
                if (isBad(values((int) g, places.get(f), places.get(f)))) {
                    return false;
                }
            }
            return true;
        }

        int reached(int f) {
            boolean[] seen = new boolean[10];
            follow(f, seen);
            int bits = 0;
            for (int g = 0; g < 10; g++) {
                bits |= seen[g] ? 1 << g : 0;
            }
            return bits;
        }

        private void follow(int f, boolean[] seen) {
            for (Call c : calls) {
                if (c.from == f && !seen[c.to]) {
                    seen[c.to] = true;
                    follow(c.to, seen);
                }
            }
        }

        boolean isSafe(int f) {
            for (int g = 0; g < places.size(); g++) {
                if ((g == f || (reached(f) >> g & 1) == 1) && !falls(g)) {
                    return false;
                }
            }
            return true;
        }

        List<Integer> order(int f) {
            List<Call> open = new ArrayList<>();
            for (Call c : calls) {
                if (c.from == f && c.to == f) {
                    open.add(c);
                }
            }
            List<Integer> taken = new ArrayList<>();
            for (int p = 0; p < places.get(f); p++) {
                int place = p;
                if (!taken.contains(place) && open.stream().allMatch(c -> c.known[place][place] >= 1)
                        && open.stream().anyMatch(c -> c.known[place][place] == 2)) {
                    taken.add(place);
                    open.removeIf(c -> c.known[place][place] == 2);
                    p = -1;
                }
            }
            return open.isEmpty() ? taken : null;
        }

        Integer product(long row, int many) {
            if (many < 1 || many > 12) {
                return -2;
            }
            int[][] graph = null;
            int at = -1;
            for (int k = 0; k < many; k++) {
                int c = (int) (row >> 5 * k & 31);
                if (c >= calls.size() || graph != null && calls.get(c).from != at) {
                    return -2;
                }
                graph = graph == null ? calls.get(c).known : join(graph, calls.get(c).known);
                at = calls.get(c).to;
            }
            return bits(graph);
        }

        private int wordsLeft;

        /** All rows, the shorter ones first, then by their numbers; null if that takes too many. */
        List<Integer> badRow(int f) {
            wordsLeft = WORDS_TRIED;
            for (int length = 1; wordsLeft > 0; length++) {
                List<Integer> row = new ArrayList<>();
                if (badRow(f, f, null, length, row)) {
                    return row;
                }
            }
            return null;
        }

        private boolean badRow(int f, int at, int[][] graph, int length, List<Integer> row) {
            if (length == 0) {
                return at == f && isBad(graph);
            }
            for (int c = 0; c < calls.size() && wordsLeft > 0; c++) {
                if (calls.get(c).from == at) {
                    wordsLeft--;
                    int[][] known = calls.get(c).known;
                    row.add(c);
                    if (badRow(f, calls.get(c).to, graph == null ? known : join(graph, known),
                            length - 1, row)) {
                        return true;
                    }
                    row.remove(row.size() - 1);
                }
            }
            return false;
        }
    }

    private static final class Run {
        static int tooManySeen;
        static int longestBad;
        static int orders;

        final int number;
        final Random random;
        final RecursionProofs asked = new RecursionProofs();
        final Model model = new Model();
        final int density;
        final int twos;
        final int mostPlaces;
        final int mostCalls;
        int used;

        Run(int number) {
            this.number = number;
            random = new Random(number);
            density = 1 + random.nextInt(9);
            twos = random.nextInt(10);
            mostPlaces = 1 + random.nextInt(4);
            mostCalls = 1 + random.nextInt(21);
        }

        void go() {
            int functions = 1 + random.nextInt(random.nextBoolean() ? 3 : 11);
            for (int f = 0; f < functions; f++) {
                function();
            }
            while (used < CALLS_OF_A_RUN - CALLS_OF_A_QUESTION) {
                int kind = random.nextInt(40);
                if (kind < 8 && model.calls.size() < mostCalls) {
                    call();
                } else if (kind < 10) {
                    undo();
                } else if (kind == 10 && random.nextInt(8) == 0) {
                    function();
                } else {
                    ask(random.nextInt(8));
                }
            }
            check.same("run " + number + " is no longer than promised", used <= CALLS_OF_A_RUN, true);
        }

        /** Each use of the object is one call. */
        RecursionProofs x() {
            used++;
            return asked;
        }

        String say(String what) {
            return "run " + number + ", call " + (used + 1) + ": " + what;
        }

        int someFunction() {
            if (random.nextInt(30) == 0) {
                int[] odd = {-1, model.places.size(), 10, Integer.MIN_VALUE, Integer.MAX_VALUE};
                return odd[random.nextInt(odd.length)];
            }
            return random.nextInt(Math.max(1, model.places.size()));
        }

        int someIndex(int below) {
            return random.nextInt(30) == 0 ? random.nextInt() : random.nextInt(below + 3) - 2;
        }

        void function() {
            int places = random.nextInt(20) == 0 ? random.nextInt(7) - 1 : 1 + random.nextInt(mostPlaces);
            String what = say("function(" + places + ")");
            if (places < 1 || places > 4) {
                check.argument(what, () -> x().function(places));
            } else if (model.places.size() == 10) {
                check.state(what, () -> x().function(places));
            } else {
                check.same(what, x().function(places), model.places.size());
                model.places.add(places);
            }
        }

        int someKnown() {
            if (random.nextInt(20) == 0) {
                return random.nextInt();
            }
            int bits = 0;
            for (int k = 0; k < 16; k++) {
                if (random.nextInt(10) < density) {
                    bits |= (random.nextInt(10) < twos ? 2 + random.nextInt(2) : 1) << 2 * k;
                }
            }
            return bits;
        }

        void call() {
            int from = someFunction();
            int to = random.nextInt(3) == 0 ? from : someFunction();
            int known = someKnown();
            String what = say("call(" + from + ", " + to + ", " + known + ")");
            if (!model.has(from) || !model.has(to)) {
                check.index(what, () -> x().call(from, to, known));
            } else if (model.calls.size() == 20) {
                check.state(what, () -> x().call(from, to, known));
            } else {
                check.same(what, x().call(from, to, known), model.calls.size());
                model.calls.add(new Call(from, to,
                        Model.values(known, model.places.get(from), model.places.get(to))));
                model.changed();
            }
        }

        void undo() {
            check.same(say("undo()"), x().undo(), !model.calls.isEmpty());
            if (!model.calls.isEmpty()) {
                model.calls.remove(model.calls.size() - 1);
                model.changed();
            }
        }

        void ask(int kind) {
            int f = someFunction();
            switch (kind) {
                case 0 -> told();
                case 1 -> reached(f);
                case 2 -> order(f);
                case 3 -> product();
                case 4 -> graphs(f, random.nextInt(3) == 0 ? f : someFunction());
                case 5 -> falls(f);
                case 6 -> isSafe(f);
                default -> bad(f);
            }
        }

        void told() {
            int c = someIndex(model.calls.size());
            int what = random.nextInt(6) - 1;
            long due = -1;
            if (c >= 0 && c < model.calls.size() && what >= 0 && what < 3) {
                Call call = model.calls.get(c);
                due = what == 0 ? call.from : what == 1 ? call.to : Model.bits(call.known);
            }
            check.same(say("told(" + c + ", " + what + ")"), x().told(c, what), due);
            int about = what == 0 ? model.places.size() : what == 1 ? model.calls.size() : -1;
            check.same(say("about(" + what + ")"), x().about(what), about);
        }

        void reached(int f) {
            check.same(say("reached(" + f + ")"), x().reached(f), model.has(f) ? model.reached(f) : -1);
        }

        void order(int f) {
            List<Integer> due = model.has(f) ? model.order(f) : null;
            check.same(say("order(" + f + ", -1)"), x().order(f, -1), due == null ? -1 : due.size());
            int i = someIndex(4);
            if (i != -1) {
                check.same(say("order(" + f + ", " + i + ")"), x().order(f, i),
                        due == null || i < 0 || i >= due.size() ? -1 : due.get(i));
            }
            orders += due != null && due.size() > 1 ? 1 : 0;
        }

        void product() {
            int many = random.nextInt(10) == 0 ? random.nextInt(20) - 3 : 1 + random.nextInt(12);
            long row = random.nextInt(20) == 0 ? random.nextLong() : 0;
            int at = someFunction();
            for (int k = 0; k < 12 && !model.calls.isEmpty(); k++) {
                int c = random.nextInt(model.calls.size());
                for (int t = 0; t < 20 && model.calls.get(c).from != at; t++) {
                    c = random.nextInt(model.calls.size());
                }
                row ^= (long) c << 5 * k;
                at = model.calls.get(c).to;
            }
            check.same(say("product(" + row + ", " + many + ")"), x().product(row, many),
                    model.product(row, many));
        }

        void graphs(int from, int to) {
            String what = "(" + from + ", " + to;
            int k = someIndex(5);
            if (!model.has(from) || !model.has(to)) {
                check.same(say("graphs" + what + ")"), x().graphs(from, to), -1);
                check.index(say("graph" + what + ", " + k + ")"), () -> x().graph(from, to, k));
                return;
            }
            model.gather();
            if (model.tooMany) {
                tooManySeen++;
                check.unsupported(say("graphs" + what + ")"), () -> x().graphs(from, to));
                check.unsupported(say("graph" + what + ", 0)"), () -> x().graph(from, to, 0));
                return;
            }
            Long[] due = model.graphs.get(10 * from + to).toArray(new Long[0]);
            check.same(say("graphs" + what + ")"), x().graphs(from, to), due.length);
            int n = random.nextBoolean() || due.length == 0 ? k : random.nextInt(due.length);
            String one = say("graph" + what + ", " + n + ")");
            if (n < 0 || n >= due.length) {
                check.index(one, () -> x().graph(from, to, n));
            } else {
                check.same(one, x().graph(from, to, n), due[n].intValue());
            }
        }

        void falls(int f) {
            String what = say("falls(" + f + ")");
            model.gather();
            if (!model.has(f)) {
                check.index(what, () -> x().falls(f) ? 1 : 0);
            } else if (model.tooMany) {
                check.unsupported(what, () -> x().falls(f) ? 1 : 0);
            } else {
                check.same(what, x().falls(f), model.falls(f));
            }
        }

        void isSafe(int f) {
            String what = say("isSafe(" + f + ")");
            model.gather();
            if (!model.has(f)) {
                check.index(what, () -> x().isSafe(f) ? 1 : 0);
            } else if (model.tooMany) {
                check.unsupported(what, () -> x().isSafe(f) ? 1 : 0);
            } else {
                check.same(what, x().isSafe(f), model.isSafe(f));
            }
        }

        void bad(int f) {
            String what = say("bad(" + f + ", ..)");
            model.gather();
            if (!model.has(f)) {
                check.same(what, x().bad(f, -1), -1);
                check.same(what, x().bad(f, 0), -1);
            } else if (model.tooMany) {
                check.unsupported(what, () -> x().bad(f, -1));
                check.unsupported(what, () -> x().bad(f, 0));
            } else if (model.falls(f)) {
                check.same(what, x().bad(f, -1), 0);
                check.same(what, x().bad(f, 0), -1);
            } else {
                badRow(f, what);
            }
        }

        void badRow(int f, String what) {
            List<Integer> due = model.badRow(f);
            int length = x().bad(f, -1);
            longestBad = Math.max(longestBad, length);
            if (due == null) {
                check.same(what + " is long", length > 2, true);
                if (length <= 12) {
                    shows(f, length, what);
                }
                return;
            }
            check.same(what + " length", length, due.size());
            for (int i = 0; i < due.size(); i++) {
                check.same(what + " call " + i, x().bad(f, i), due.get(i));
            }
            check.same(what + " behind the last", x().bad(f, due.size()), -1);
            check.same(what + " below", x().bad(f, -2), -1);
        }

        /** A row too long for the model to find must at least be one that shows it. */
        void shows(int f, int length, String what) {
            int[] calls = new int[length];
            for (int i = 0; i < length; i++) {
                calls[i] = x().bad(f, i);
            }
            int p = model.places.get(f);
            int bits = model.product(Check.row(calls), length);
            check.same(what + " is a row", bits != -2 && model.calls.get(calls[0]).from == f
                    && model.calls.get(calls[length - 1]).to == f, true);
            check.same(what + " is bad", Model.isBad(Model.values(bits, p, p)), true);
        }
    }
}
