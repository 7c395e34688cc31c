/** Counts the answers that are not the ones that are due, and prints each of them. */
final class Check {
    /** The program is given as rows of kind, one, two, three; numbers left out at a row's end are 0. */
    static BranchConstants program(int[]... rows) {
        BranchConstants x = new BranchConstants();
        for (int[] row : rows) {
            x.add(row[0], number(row, 1), number(row, 2), number(row, 3));
        }
        return x;
    }

    private static int number(int[] row, int what) {
        return what < row.length ? row[what] : 0;
    }

    private int asked;
    private int wrong;

    void due(String call, long want, long got) {
        asked++;
        if (want != got) {
            wrong++;
            System.out.println(call + " answered " + got + ", due is " + want);
        }
    }

    void due(String call, boolean want, boolean got) {
        due(call, want ? 1 : 0, got ? 1 : 0);
    }

    void dueText(String call, String want, String got) {
        asked++;
        if (!want.equals(got)) {
            wrong++;
            System.out.println(call + " answered " + got + ", due is " + want);
        }
    }

    void argument(String call, Runnable code) {
        thrown(call, IllegalArgumentException.class, code);
    }

    void state(String call, Runnable code) {
        thrown(call, IllegalStateException.class, code);
    }

    void index(String call, Runnable code) {
        thrown(call, IndexOutOfBoundsException.class, code);
    }

    private void thrown(String call, Class<?> want, Runnable code) {
        String got = "nothing";
        try {
            code.run();
        } catch (RuntimeException e) {
            got = e.getClass().getSimpleName();
        }
        dueText(call + " throws", want.getSimpleName(), got);
    }

    /** The whole program of a side, with every number of every instruction, and that there is none behind it. */
    void code(String name, BranchConstants x, int side, int[]... rows) {
        for (int i = 0; i < rows.length; i++) {
            for (int what = 0; what < 4; what++) {
                due(name + ": code(" + side + ", " + i + ", " + what + ")",
                        number(rows[i], what), x.code(side, i, what));
            }
        }
        index(name + ": code behind the last", () -> x.code(side, rows.length, 0));
    }

    /** Rewrites the program, and looks at how many instructions that tells and at all of them. */
    void rewritten(String name, BranchConstants x, int[]... rows) {
        due(name + ": rewrite()", rows.length, x.rewrite());
        code(name, x, 1, rows);
    }

    void end() {
        System.out.println(asked + " answers, " + wrong + " not as due");
        if (wrong != 0 || asked == 0) {
            System.exit(1);
        }
    }
}
