/** What the tests share: answers are compared, wrong ones are printed and counted. */
final class Check {
    interface Call {
        long answer();
    }

    private int done;
    private int wrong;
    private int sentences;
    private String sentence = "";

    /** The document's words that the answers from here on are held against. */
    void sentence(String words) {
        sentences++;
        sentence = "\"" + words + "\": ";
    }

    void same(String what, long got, long due) {
        done++;
        if (got != due) {
            report(what + " answered " + got + ", due is " + due);
        }
    }

    void same(String what, boolean got, boolean due) {
        same(what, got ? 1 : 0, due ? 1 : 0);
    }

    /** The very class: what the machine throws is often of a class below the one that is due. */
    void thrown(String what, Class<? extends RuntimeException> due, Call call) {
        done++;
        try {
            report(what + " answered " + call.answer() + ", due is " + due.getSimpleName());
        } catch (RuntimeException e) {
            if (e.getClass() != due) {
                report(what + " threw " + e.getClass().getName() + ", due is " + due.getSimpleName());
            }
        }
    }

    void argument(String what, Call call) {
        thrown(what, IllegalArgumentException.class, call);
    }

    void state(String what, Call call) {
        thrown(what, IllegalStateException.class, call);
    }

    void index(String what, Call call) {
        thrown(what, IndexOutOfBoundsException.class, call);
    }

    void unsupported(String what, Call call) {
        thrown(what, UnsupportedOperationException.class, call);
    }

    private void report(String text) {
        wrong++;
        System.out.println(sentence + text);
    }

    void end() {
        String held = sentences == 0 ? "" : sentences + " sentences, ";
        System.out.println(held + done + " answers, " + wrong + " of them wrong");
        if (wrong != 0 || done == 0) {
            System.exit(1);
        }
    }

    /** What is known, from the values 0 .. 2 (3 too) written a digit each, places of the first by row. */
    static int known(String... rows) {
        int bits = 0;
        for (int i = 0; i < rows.length; i++) {
            for (int j = 0; j < rows[i].length(); j++) {
                bits |= (rows[i].charAt(j) - '0') << 8 * i + 2 * j;
            }
        }
        return bits;
    }

    /** Calls' numbers as product takes them. */
    static long row(int... calls) {
        long row = 0;
        for (int k = 0; k < calls.length; k++) {
            row |= (long) calls[k] << 5 * k;
        }
        return row;
    }

    static RecursionProofs withFunctions(int... places) {
        RecursionProofs x = new RecursionProofs();
        for (int p : places) {
            x.function(p);
        }
        return x;
    }

    /** Exactly 800 graphs from one function in 3 calls; functions 1 to 9 are in none of these. */
    static RecursionProofs withEightHundredFromOne() {
        RecursionProofs x = withFunctions(4, 1, 1, 1, 1, 1, 1, 1, 1, 1);
        x.call(0, 0, known("0200", "0000", "0001", "0010"));
        x.call(0, 0, known("2000", "2020", "0200", "0011"));
        x.call(0, 0, known("0011", "0120", "0100", "0000"));
        return x;
    }

    /** Exactly 800 graphs in 14 calls; functions 6 to 9 are in none of these. */
    static RecursionProofs withEightHundredGraphs() {
        RecursionProofs x = withFunctions(4, 4, 2, 2, 2, 2, 1, 1, 4, 1);
        for (int f = 0; f < 2; f++) {
            // all 24 orders of four places, each with any of the 16 sets of places falling
            x.call(f, f, known("0100", "0010", "0001", "1000"));
            x.call(f, f, known("0100", "1000", "0010", "0001"));
            x.call(f, f, known("2000", "0100", "0010", "0001"));
        }
        for (int f = 2; f < 6; f++) {
            x.call(f, f, known("01", "10"));
            x.call(f, f, known("20", "01"));
        }
        return x;
    }
}
