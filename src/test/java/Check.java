/** Counts the answers that are not the ones that are due, and prints each of them. */
final class Check {
    private String sentence = "";
    private int tests;
    private int asked;
    private int wrong;

    /** One test, named after the sentence of the document that it is about. */
    void about(String name, Runnable test) {
        int askedBefore = asked;
        sentence = name + ": ";
        tests++;
        try {
            test.run();
        } catch (RuntimeException e) {
            fail("was broken off by " + e);
        }
        if (asked == askedBefore) {
            fail("asked nothing");
        }
        sentence = "";
    }

    private void fail(String what) {
        wrong++;
        System.out.println(sentence + what);
    }

    void due(String call, long want, long got) {
        asked++;
        if (want != got) {
            fail(call + " answered " + got + ", due is " + want);
        }
    }

    void due(String call, boolean want, boolean got) {
        due(call, want ? 1 : 0, got ? 1 : 0);
    }

    void dueText(String call, String want, String got) {
        asked++;
        if (!want.equals(got)) {
            fail(call + " answered " + got + ", due is " + want);
        }
    }

    void argument(String call, Runnable code) {
        thrown(call, "IllegalArgumentException", code);
    }

    void state(String call, Runnable code) {
        thrown(call, "IllegalStateException", code);
    }

    void index(String call, Runnable code) {
        thrown(call, "IndexOutOfBoundsException", code);
    }

    /** Whatever it answers: the call is not refused. */
    void allowed(String call, Runnable code) {
        thrown(call, "nothing", code);
    }

    private void thrown(String call, String want, Runnable code) {
        String got = "nothing";
        try {
            code.run();
        } catch (RuntimeException e) {
            got = e.getClass().getSimpleName();
        }
        dueText(call + " throws", want, got);
    }

    /** The whole program of a side, with every number of every instruction, and that there is none behind it. */
    void code(String name, BranchConstants x, int side, int[]... rows) {
        for (int i = 0; i < rows.length; i++) {
            for (int what = 0; what < 4; what++) {
                due(name + ": code(" + side + ", " + i + ", " + what + ")", rows[i][what], x.code(side, i, what));
            }
        }
        index(name + ": code(" + side + ", " + rows.length + ", 0)", () -> x.code(side, rows.length, 0));
    }

    /** Rewrites the program, and looks at how many instructions that tells and at all of them. */
    void rewritten(String name, BranchConstants x, int[]... rows) {
        due(name + ": rewrite()", rows.length, x.rewrite());
        code(name, x, 1, rows);
    }

    void values(String name, BranchConstants x, int side, int... want) {
        for (int v = 0; v < 6; v++) {
            due(name + ": value(" + side + ", " + v + ")", want[v], x.value(side, v));
        }
    }

    void stands(String name, BranchConstants x, int side, int place, int steps) {
        due(name + ": place(" + side + ")", place, x.place(side));
        due(name + ": steps(" + side + ")", steps, x.steps(side));
    }

    void end() {
        System.out.println(tests + " tests, " + asked + " answers, " + wrong + " not as due");
        if (wrong != 0 || asked == 0) {
            System.exit(1);
        }
    }
}
