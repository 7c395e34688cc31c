import java.util.Arrays;

/** All promises: many runs of calls, the same ones every time, answered by the class as by the model. */
final class ModelTest extends Rows {
    private static final int[] EDGES = {MIN, MAX, -1, 6, 40, 41};
    private static final int CALL_OF_CHANGE = 1;
    private static final int CALL_OF_CLEAR = 2;
    private static final int CALL_OF_REWRITE = 7;
    private static final int CALL_OF_CODE = 8;
    private static final int CALL_OF_RUN = 10;
    private static final int CALL_OF_VALUE = 12;
    private static long seed = 20261115;

    public static void main(String[] args) {
        CHECK.about("All promises: any calls", ModelTest::anyCalls);
        CHECK.about("All promises: any programs", ModelTest::anyPrograms);
        CHECK.end();
    }

    private static void anyCalls() {
        for (int n = 0; n < 3000; n++) {
            anyCalls(n);
        }
    }

    private static void anyPrograms() {
        for (int n = 0; n < 20000; n++) {
            int[][] rows = anyProgram(1 + below(n % 2 == 0 ? 40 : 8));
            if (n % 10 == 0) {
                analysed(rows);
            }
            rewritten(rows);
            isTrueWhenRun(rows);
        }
    }

    /** Random numbers that are the same in each run of the test. */
    private static int below(int bound) {
        seed = seed * 6364136223846793005L + 1442695040888963407L;
        return (int) ((seed >>> 33) % bound);
    }

    private static int[] anyInstruction(int size) {
        int[] kinds = {SET, SET, SET, COPY, ADD, SUB, MUL, MUL, ZERO, ZERO, ZERO, ZERO, JUMP, JUMP, HALT};
        int kind = kinds[below(kinds.length)];
        if (kind == HALT && below(2) == 0) {
            kind = JUMP;
        }
        int variables = 1 + below(6);
        int two = below(variables);
        if (kind == SET) {
            two = below(4) == 0 ? EDGES[below(EDGES.length)] : below(3);
        } else if (kind >= ZERO) {
            two = below(12) == 0 ? below(41) : below(size + 1);
        }
        return new int[] {kind, below(variables), two, below(variables)};
    }

    private static int[][] anyProgram(int size) {
        int[][] rows = new int[size][];
        for (int i = 0; i < size; i++) {
            rows[i] = anyInstruction(size);
        }
        return rows;
    }

    private static Model model(int[][] rows) {
        Model model = new Model();
        for (int[] row : rows) {
            model.add(row[0], row[1], row[2], row[3]);
        }
        return model;
    }

    private static void anyCalls(int number) {
        BranchConstants x = new BranchConstants();
        Model model = new Model();
        StringBuilder told = new StringBuilder("run " + number + ":");
        int size = 1 + below(45);
        for (int n = 0; n < 500; n++) {
            int kind = n < size ? 0 : below(Call.kinds());
            if (kind == CALL_OF_CLEAR && below(20) != 0 || kind == CALL_OF_CHANGE && below(3) != 0) {
                kind = CALL_OF_REWRITE;
            }
            Call call = Call.ofKind(kind, anyNumbers(kind, size));
            told.append(' ').append(call);
            String want = call.answer(model);
            String got = call.answer(x);
            CHECK.dueText(want.equals(got) ? "" : told.toString(), want, got);
            if (!want.equals(got)) {
                return;
            }
        }
    }

    private static int[] anyNumbers(int kind, int size) {
        int[] a = {below(3) == 0 ? below(2) : below(size + 1), below(7), below(5), below(7) - 1, below(7)};
        if (kind <= CALL_OF_CHANGE) {
            System.arraycopy(anyInstruction(size), 0, a, kind == CALL_OF_CHANGE ? 1 : 0, 4);
        } else if (kind >= CALL_OF_CODE) {
            a[0] = below(2);
            a[1] = kind == CALL_OF_RUN ? below(40) : kind == CALL_OF_VALUE ? below(6) : below(size);
        }
        if (below(15) == 0) {
            a[below(5)] = EDGES[below(EDGES.length)];
        }
        return a;
    }

    /** Two objects, for one has not calls enough. */
    private static void analysed(int[][] rows) {
        Model model = model(rows);
        BranchConstants x = program(rows);
        BranchConstants y = program(rows);
        String name = Arrays.deepToString(rows);
        for (int i = 0; i < rows.length; i++) {
            for (int v = 0; v < 6; v++) {
                CHECK.due(name + " known(" + i + ", " + v + ")", model.known(i, v), x.known(i, v));
                CHECK.due(name + " constant(" + i + ", " + v + ")", model.constant(i, v), y.constant(i, v));
            }
        }
    }

    private static void rewritten(int[][] rows) {
        Model model = model(rows);
        int[][] want = new int[model.rewrite()][4];
        for (int i = 0; i < want.length; i++) {
            for (int what = 0; what < 4; what++) {
                want[i][what] = model.code(1, i, what);
            }
        }
        CHECK.rewritten(Arrays.deepToString(rows), program(rows), want);
    }

    /** What must hold of any run: each constant is true, and both programs end with the same values. */
    private static void isTrueWhenRun(int[][] rows) {
        int[] given = {below(3), below(3) - 1, below(2), EDGES[below(EDGES.length)]};
        String name = Arrays.deepToString(rows) + " with " + Arrays.toString(given);
        constantsAreTrue(name, rows, given);
        bothEndAlike(name, rows, given);
    }

    private static void constantsAreTrue(String name, int[][] rows, int[] given) {
        BranchConstants analysed = program(rows);
        BranchConstants x = program(rows);
        x.start(0, given[0], given[1], given[2], given[3]);
        for (int n = 0; n < 30; n++) {
            int i = x.place(0);
            if (i == NONE) {
                return;
            }
            CHECK.due(name + " reached(" + i + ")", true, analysed.reached(i));
            for (int v = 0; v < 6; v++) {
                if (analysed.known(i, v) == CONSTANT) {
                    CHECK.due(name + " constant(" + i + ", " + v + ")", x.value(0, v), analysed.constant(i, v));
                }
            }
            x.run(0, 1);
        }
    }

    private static void bothEndAlike(String name, int[][] rows, int[] given) {
        BranchConstants x = program(rows);
        x.rewrite();
        for (int side = 0; side < 2; side++) {
            x.start(side, given[0], given[1], given[2], given[3]);
            x.run(side, 10000);
        }
        if (x.place(0) != NONE) {
            return;
        }
        CHECK.due(name + " ends, too", NONE, x.place(1));
        CHECK.due(name + " takes no more steps", true, x.steps(1) <= x.steps(0));
        for (int v = 0; v < 6; v++) {
            CHECK.due(name + " ends with variable " + v, x.value(0, v), x.value(1, v));
        }
    }
}
