/** All promises: many runs of calls, the same ones every time, answered by the class as by the model. */
final class ModelTest {
    private static final String[] CALLS = {"add", "change", "clear", "reached", "reachedAll", "known", "constant",
        "rewrite", "code", "start", "run", "place", "value", "steps"};
    private static final int[] NUMBERS = {5, 5, 0, 1, 0, 2, 2, 0, 3, 5, 2, 1, 2, 1};
    private static final int[] EDGES = {Integer.MIN_VALUE, Integer.MAX_VALUE, -1, 6, 40, 41};
    private static final Check CHECK = new Check();
    private static long seed = 20261115;

    public static void main(String[] args) {
        for (int n = 0; n < 3000; n++) {
            anyCalls(n);
        }
        for (int n = 0; n < 20000; n++) {
            aProgram(n);
        }
        CHECK.end();
    }

    /** Random numbers that are the same in each run of the test. */
    private static int below(int bound) {
        seed = seed * 6364136223846793005L + 1442695040888963407L;
        return (int) ((seed >>> 33) % bound);
    }

    private static int[] instruction(int size) {
        int[] kinds = {0, 0, 0, 1, 2, 3, 4, 4, 5, 5, 5, 5, 6, 6, 7};
        int kind = kinds[below(kinds.length)];
        if (kind == 7 && below(2) == 0) {
            kind = 6;
        }
        int variables = 1 + below(6);
        int two = below(variables);
        if (kind == 0) {
            two = below(4) == 0 ? EDGES[below(EDGES.length)] : below(3);
        } else if (kind >= 5) {
            two = below(12) == 0 ? below(41) : below(size + 1);
        }
        return new int[] {kind, below(variables), two, below(variables)};
    }

    private static void anyCalls(int number) {
        BranchConstants x = new BranchConstants();
        Model model = new Model();
        StringBuilder told = new StringBuilder("run " + number + ":");
        int size = 1 + below(45);
        for (int n = 0; n < 400; n++) {
            int call = n < size ? 0 : below(CALLS.length);
            if (call == 2 && below(20) != 0 || call == 1 && below(3) != 0) {
                call = 7;
            }
            int[] a = numbers(call, size);
            String text = CALLS[call] + java.util.Arrays.toString(java.util.Arrays.copyOf(a, NUMBERS[call]));
            told.append(' ').append(text);
            String want = answer(null, model, call, a);
            String got = answer(x, null, call, a);
            CHECK.dueText(want.equals(got) ? text : told.toString(), want, got);
            if (!want.equals(got)) {
                return;
            }
        }
    }

    private static int[] numbers(int call, int size) {
        int[] a = {below(3) == 0 ? below(2) : below(size + 1), below(7), below(5), below(7) - 1, below(7)};
        if (call <= 1) {
            int[] made = instruction(size);
            int from = call == 0 ? 0 : 1;
            System.arraycopy(made, 0, a, from, 4);
        } else if (call >= 8) {
            a[0] = below(2);
            a[1] = call == 10 ? below(40) : call == 12 ? below(6) : below(size);
        }
        if (below(15) == 0) {
            a[below(5)] = EDGES[below(EDGES.length)];
        }
        return a;
    }

    private static String answer(BranchConstants x, Model m, int call, int[] a) {
        try {
            return Integer.toString(x == null ? ask(m, call, a) : ask(x, call, a));
        } catch (RuntimeException e) {
            return "throws." + e.getClass().getSimpleName();
        }
    }

    private static int ask(BranchConstants x, int call, int[] a) {
        switch (call) {
            case 0: return x.add(a[0], a[1], a[2], a[3]);
            case 1: x.change(a[0], a[1], a[2], a[3], a[4]); return 0;
            case 2: return x.clear();
            case 3: return x.reached(a[0]) ? 1 : 0;
            case 4: return x.reachedAll();
            case 5: return x.known(a[0], a[1]);
            case 6: return x.constant(a[0], a[1]);
            case 7: return x.rewrite();
            case 8: return x.code(a[0], a[1], a[2]);
            case 9: x.start(a[0], a[1], a[2], a[3], a[4]); return 0;
            case 10: return x.run(a[0], a[1]);
            case 11: return x.place(a[0]);
            case 12: return x.value(a[0], a[1]);
            default: return x.steps(a[0]);
        }
    }

    private static int ask(Model m, int call, int[] a) {
        switch (call) {
            case 0: return m.add(a[0], a[1], a[2], a[3]);
            case 1: return m.change(a[0], a[1], a[2], a[3], a[4]);
            case 2: return m.clear();
            case 3: return m.reached(a[0]);
            case 4: return m.reachedAll();
            case 5: return m.known(a[0], a[1]);
            case 6: return m.constant(a[0], a[1]);
            case 7: return m.rewrite();
            case 8: return m.code(a[0], a[1], a[2]);
            case 9: return m.start(a[0], a[1], a[2], a[3], a[4]);
            case 10: return m.run(a[0], a[1]);
            case 11: return m.place(a[0]);
            case 12: return m.value(a[0], a[1]);
            default: return m.steps(a[0]);
        }
    }

    /** A whole program: the analysis and the rewritten one as in the model, and what must hold of any run. */
    private static void aProgram(int number) {
        int size = 1 + below(number % 2 == 0 ? 40 : 8);
        BranchConstants x = new BranchConstants();
        Model model = new Model();
        StringBuilder told = new StringBuilder("program");
        for (int i = 0; i < size; i++) {
            int[] c = instruction(size);
            told.append(' ').append(java.util.Arrays.toString(c));
            x.add(c[0], c[1], c[2], c[3]);
            model.add(c[0], c[1], c[2], c[3]);
        }
        String name = told.toString();
        for (int i = 0; i < size && number % 20 < 2; i++) {
            for (int v = 0; v < 6; v++) {
                CHECK.due(name + " known " + i + " " + v, model.known(i, v), x.known(i, v));
                CHECK.due(name + " constant " + i + " " + v, model.constant(i, v), x.constant(i, v));
            }
        }
        int left = model.rewrite();
        CHECK.due(name + " rewrite", left, x.rewrite());
        for (int i = 0; i < left; i++) {
            for (int what = 0; what < 4; what++) {
                CHECK.due(name + " code " + i + " " + what, model.code(1, i, what), x.code(1, i, what));
            }
        }
        bothRuns(name, x, below(3), below(3) - 1, below(2), EDGES[below(EDGES.length)]);
    }

    /** Each constant is true whenever the run comes by, and the rewritten program ends with the same values. */
    private static void bothRuns(String name, BranchConstants x, int a, int b, int c, int d) {
        x.start(0, a, b, c, d);
        for (int n = 0; n < 200 && x.place(0) != BranchConstants.NONE; n++) {
            int i = x.place(0);
            CHECK.due(name + " reached " + i, true, x.reached(i));
            for (int v = 0; v < 6; v++) {
                if (x.known(i, v) == BranchConstants.CONSTANT) {
                    CHECK.due(name + " is the value at " + i + " of " + v, x.value(0, v), x.constant(i, v));
                }
            }
            x.run(0, 1);
        }
        x.start(1, a, b, c, d);
        x.run(1, 200);
        if (x.place(0) == BranchConstants.NONE) {
            CHECK.due(name + " ends, too", BranchConstants.NONE, x.place(1));
            CHECK.due(name + " takes no more steps", true, x.steps(1) <= x.steps(0));
            for (int v = 0; v < 6; v++) {
                CHECK.due(name + " ends with the value of " + v, x.value(0, v), x.value(1, v));
            }
        }
    }
}
