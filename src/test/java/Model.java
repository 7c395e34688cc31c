import java.util.ArrayList;
import java.util.List;
import java.util.TreeSet;

/**
 * The document once more, written for being read beside it and not for speed: everything is worked out anew
 * from the program at every call.
 */
final class Model {
    private static final int VARIABLES = 6;

    /** One run; its place is the number of an instruction or -1. */
    private static final class Runner {
        final int[] values = new int[VARIABLES];
        int place;
        int steps;
    }

    private final List<int[]> program = new ArrayList<>();
    private List<int[]> rewritten;
    private final Runner[] runners = new Runner[2];

    private static boolean isIn(int n, int first, int last) {
        return first <= n && n <= last;
    }

    private static void index(boolean isRight) {
        if (!isRight) {
            throw new IndexOutOfBoundsException();
        }
    }

    private static void argument(boolean isRight) {
        if (!isRight) {
            throw new IllegalArgumentException();
        }
    }

    private static void state(boolean isRight) {
        if (!isRight) {
            throw new IllegalStateException();
        }
    }

    /** What each kind needs of one, two, three: a variable, a target, any number, nothing. */
    private static final String[] NEEDS = {"vk-", "vv-", "vvv", "vvv", "vvv", "vt-", "-t-", "---"};

    private static int[] instruction(int kind, int... numbers) {
        argument(isIn(kind, 0, 7));
        int[] made = {kind, 0, 0, 0};
        for (int n = 0; n < 3; n++) {
            char need = NEEDS[kind].charAt(n);
            argument(need != 'v' || isIn(numbers[n], 0, 5));
            argument(need != 't' || isIn(numbers[n], 0, 40));
            made[n + 1] = need == '-' ? 0 : numbers[n];
        }
        return made;
    }

    private void changed() {
        rewritten = null;
        runners[0] = null;
        runners[1] = null;
    }

    int add(int kind, int one, int two, int three) {
        int[] made = instruction(kind, one, two, three);
        state(program.size() < 40);
        program.add(made);
        changed();
        return program.size();
    }

    int change(int i, int kind, int one, int two, int three) {
        index(isIn(i, 0, program.size() - 1));
        program.set(i, instruction(kind, one, two, three));
        changed();
        return 0;
    }

    int clear() {
        int had = program.size();
        program.clear();
        changed();
        return had;
    }

    /** What comes to each instruction: null if nothing does, otherwise six constants, null for what varies. */
    private Integer[][] analysis() {
        int n = program.size();
        Integer[][] before = new Integer[n][];
        for (boolean rests = false; !rests;) {
            Integer[][] next = new Integer[n][];
            meet(next, 0, new Integer[VARIABLES]);
            for (int i = 0; i < n; i++) {
                if (before[i] != null) {
                    goOn(before[i], i, next);
                }
            }
            rests = java.util.Arrays.deepEquals(before, next);
            before = next;
        }
        return before;
    }

    private static void meet(Integer[][] all, int i, Integer[] comes) {
        if (i >= all.length) {
            return;
        }
        if (all[i] == null) {
            all[i] = comes.clone();
            return;
        }
        for (int v = 0; v < VARIABLES; v++) {
            if (all[i][v] != null && !all[i][v].equals(comes[v])) {
                all[i][v] = null;
            }
        }
    }

    private static Integer result(Integer[] before, int[] c) {
        if (c[0] == 0) {
            return c[2];
        }
        Integer w = before[c[2]];
        if (c[0] == 1) {
            return w;
        }
        Integer x = before[c[3]];
        if (w != null && x != null) {
            return c[0] == 2 ? w + x : c[0] == 3 ? w - x : w * x;
        }
        boolean isZero = w != null && w == 0 || x != null && x == 0;
        return c[0] == 4 && isZero ? Integer.valueOf(0) : null;
    }

    private void goOn(Integer[] before, int i, Integer[][] next) {
        int[] c = program.get(i);
        Integer[] behind = before.clone();
        if (c[0] <= 4) {
            behind[c[1]] = result(before, c);
            meet(next, i + 1, behind);
        } else if (c[0] == 6) {
            meet(next, c[2], behind);
        } else if (c[0] == 5) {
            if (before[c[1]] == null || before[c[1]] != 0) {
                meet(next, i + 1, behind);
            }
            if (before[c[1]] == null || before[c[1]] == 0) {
                behind[c[1]] = 0;
                meet(next, c[2], behind);
            }
        }
    }

    int reached(int i) {
        index(isIn(i, 0, program.size() - 1));
        return analysis()[i] != null ? 1 : 0;
    }

    int reachedAll() {
        int all = 0;
        for (Integer[] before : analysis()) {
            all += before != null ? 1 : 0;
        }
        return all;
    }

    int known(int i, int v) {
        index(isIn(i, 0, program.size() - 1) && isIn(v, 0, 5));
        Integer[] before = analysis()[i];
        return before == null ? 0 : before[v] == null ? 1 : 2;
    }

    int constant(int i, int v) {
        index(isIn(i, 0, program.size() - 1) && isIn(v, 0, 5));
        Integer[] before = analysis()[i];
        return before == null || before[v] == null ? 0 : before[v];
    }

    int rewrite() {
        state(!program.isEmpty());
        rewritten = numbered(dropped(threaded(folded())));
        runners[1] = null;
        return rewritten.size();
    }

    private List<int[]> folded() {
        List<int[]> made = new ArrayList<>();
        Integer[][] analysis = analysis();
        for (int i = 0; i < program.size(); i++) {
            int[] c = program.get(i);
            Integer[] before = analysis[i];
            if (before != null && c[0] <= 4 && result(before, c) != null) {
                made.add(new int[] {0, c[1], result(before, c), 0});
            } else if (before != null && c[0] == 5 && before[c[1]] != null) {
                made.add(new int[] {6, 0, before[c[1]] == 0 ? c[2] : i + 1, 0});
            } else {
                made.add(c.clone());
            }
        }
        return made;
    }

    private static List<int[]> threaded(List<int[]> old) {
        List<int[]> made = new ArrayList<>();
        for (int[] c : old) {
            int[] d = c.clone();
            if (c[0] == 5 || c[0] == 6) {
                d[2] = chainEnd(old, c[2]);
            }
            made.add(d);
        }
        return made;
    }

    private static int chainEnd(List<int[]> old, int first) {
        TreeSet<Integer> seen = new TreeSet<>();
        int t = first;
        while (t < old.size() && old.get(t)[0] == 6) {
            if (!seen.add(t)) {
                return first;
            }
            t = old.get(t)[2];
        }
        return t;
    }

    /** Null stands where something was dropped. */
    private static List<int[]> dropped(List<int[]> old) {
        int n = old.size();
        TreeSet<Integer> there = new TreeSet<>();
        visit(old, 0, there);
        for (int i = n - 1; i >= 0; i--) {
            Integer behind = there.higher(i);
            int next = behind == null ? n : behind;
            int t = old.get(i)[2];
            if (there.contains(i) && old.get(i)[0] == 6 && (t == next || behind == null && t >= n)) {
                there.remove(i);
            }
        }
        List<int[]> made = new ArrayList<>();
        for (int i = 0; i < n; i++) {
            made.add(there.contains(i) ? old.get(i) : null);
        }
        return made;
    }

    private static void visit(List<int[]> old, int i, TreeSet<Integer> there) {
        if (i >= old.size() || !there.add(i)) {
            return;
        }
        int[] c = old.get(i);
        if (c[0] == 5 || c[0] == 6) {
            visit(old, c[2], there);
        }
        if (c[0] != 6 && c[0] != 7) {
            visit(old, i + 1, there);
        }
    }

    private static List<int[]> numbered(List<int[]> old) {
        List<int[]> left = new ArrayList<>();
        for (int[] c : old) {
            if (c != null) {
                left.add(c);
            }
        }
        List<int[]> made = new ArrayList<>();
        for (int[] c : left) {
            int[] d = c.clone();
            if (c[0] == 5 || c[0] == 6) {
                int t = c[2];
                while (t < old.size() && old.get(t) == null) {
                    t++;
                }
                d[2] = t >= old.size() ? left.size() : left.indexOf(old.get(t));
            }
            made.add(d);
        }
        return made;
    }

    private List<int[]> side(int side) {
        return side == 0 ? program : rewritten;
    }

    int code(int side, int i, int what) {
        state(side != 1 || rewritten != null);
        index(isIn(side, 0, 1));
        index(isIn(i, 0, side(side).size() - 1) && isIn(what, 0, 3));
        return side(side).get(i)[what];
    }

    int start(int side, int a, int b, int c, int d) {
        index(isIn(side, 0, 1));
        state(side == 0 || rewritten != null);
        Runner runner = new Runner();
        int[] given = {a, b, c, d};
        System.arraycopy(given, 0, runner.values, 0, 4);
        runner.place = side(side).isEmpty() ? -1 : 0;
        runners[side] = runner;
        return 0;
    }

    int run(int side, int n) {
        index(isIn(side, 0, 1));
        argument(isIn(n, 0, 10000));
        state(runners[side] != null);
        Runner runner = runners[side];
        int before = runner.steps;
        while (runner.place != -1 && runner.steps - before < n) {
            step(runner, side(side));
        }
        return runner.steps - before;
    }

    private static void step(Runner runner, List<int[]> code) {
        int[] c = code.get(runner.place);
        int[] values = runner.values;
        int next = runner.place + 1;
        if (c[0] == 0) {
            values[c[1]] = c[2];
        } else if (c[0] == 1) {
            values[c[1]] = values[c[2]];
        } else if (c[0] == 2) {
            values[c[1]] = values[c[2]] + values[c[3]];
        } else if (c[0] == 3) {
            values[c[1]] = values[c[2]] - values[c[3]];
        } else if (c[0] == 4) {
            values[c[1]] = values[c[2]] * values[c[3]];
        } else if (c[0] == 6 || c[0] == 5 && values[c[1]] == 0) {
            next = c[2];
        }
        runner.place = c[0] == 7 || next >= code.size() ? -1 : next;
        runner.steps++;
    }

    int place(int side) {
        index(isIn(side, 0, 1));
        state(runners[side] != null);
        return runners[side].place;
    }

    int value(int side, int v) {
        index(isIn(side, 0, 1) && isIn(v, 0, 5));
        state(runners[side] != null);
        return runners[side].values[v];
    }

    int steps(int side) {
        index(isIn(side, 0, 1));
        state(runners[side] != null);
        return runners[side].steps;
    }
}
