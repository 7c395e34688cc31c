import java.util.Arrays;

/**
 * THE ANALYSIS of all programs of three of the instructions below: the class's answer meets the demands, and of the
 * answers tried one by one that meet them none has fewer instructions reached or fewer values that vary, and no other
 * one has as few of both.
 */
final class LeastTest extends Rows {
    private static final int SIZE = 3;
    private static final int VARIABLES = 2;
    /** What a variable is tried as; the first one stands for varying, the others are constants. */
    private static final Integer[] TRIED = {null, -1, 0, 1, 2};
    /** How many things can be known before an instruction: that it is not reached, or one of these of each variable. */
    private static final int STATES = 1 + TRIED.length * TRIED.length;

    private static final Integer[][] STATE = states();
    private static final int[][] INSTRUCTIONS = instructions();

    public static void main(String[] args) {
        CHECK.about("ANALYSIS: the answer meets the demands, and is the least that does", LeastTest::isLeast);
        CHECK.end();
    }

    private static Integer[][] states() {
        Integer[][] states = new Integer[STATES][];
        for (int n = 1; n < STATES; n++) {
            states[n] = new Integer[] {TRIED[(n - 1) / TRIED.length], TRIED[(n - 1) % TRIED.length]};
        }
        return states;
    }

    private static int[][] instructions() {
        return new int[][] {
            set(0, 0), set(0, 1), set(1, 0), set(1, 1), copy(0, 1), copy(1, 0),
            add(0, 0, 0), add(0, 0, 1), add(0, 1, 1), add(1, 0, 0), add(1, 0, 1), add(1, 1, 1),
            sub(0, 0, 0), sub(0, 0, 1), sub(0, 1, 0), sub(1, 0, 1), sub(1, 1, 0), sub(1, 1, 1),
            mul(0, 0, 0), mul(0, 0, 1), mul(0, 1, 0), mul(1, 0, 1), mul(1, 1, 0), mul(1, 1, 1),
            zero(0, 0), zero(0, 1), zero(0, 2), zero(0, 3), zero(1, 0), zero(1, 1), zero(1, 2), zero(1, 3),
            jump(0), jump(1), jump(2), jump(3), halt(),
        };
    }

    private static void isLeast() {
        for (int[] first : INSTRUCTIONS) {
            for (int[] second : INSTRUCTIONS) {
                for (int[] third : INSTRUCTIONS) {
                    isLeast(first, second, third);
                }
            }
        }
    }

    private static void isLeast(int[]... rows) {
        String name = Arrays.deepToString(rows);
        Integer[][] answer = answer(program(rows));
        CHECK.due(name + " meets the demands", true, meetsTheDemands(rows, answer));
        Integer[][] tried = {new Integer[VARIABLES], null, null};
        for (int n = 0; n < STATES * STATES; n++) {
            tried[1] = STATE[n / STATES];
            tried[2] = STATE[n % STATES];
            if (meetsTheDemands(rows, tried) && !isMore(tried, answer)) {
                CHECK.dueText(name, Arrays.deepToString(tried), Arrays.deepToString(answer));
            }
        }
    }

    /** What the class answers: null before what is not reached, null for what varies. */
    private static Integer[][] answer(BranchConstants x) {
        Integer[][] answer = new Integer[SIZE][];
        for (int i = 0; i < SIZE; i++) {
            if (x.reached(i)) {
                answer[i] = new Integer[VARIABLES];
                for (int v = 0; v < VARIABLES; v++) {
                    answer[i][v] = x.known(i, v) == CONSTANT ? Integer.valueOf(x.constant(i, v)) : null;
                }
            }
        }
        return answer;
    }

    private static boolean isMore(Integer[][] one, Integer[][] other) {
        return reached(one) >= reached(other) && varying(one) >= varying(other)
                && reached(one) + varying(one) > reached(other) + varying(other);
    }

    private static int reached(Integer[][] answer) {
        int count = 0;
        for (Integer[] state : answer) {
            count += state != null ? 1 : 0;
        }
        return count;
    }

    private static int varying(Integer[][] answer) {
        int count = 0;
        for (Integer[] state : answer) {
            for (int v = 0; v < VARIABLES && state != null; v++) {
                count += state[v] == null ? 1 : 0;
            }
        }
        return count;
    }

    private static boolean meetsTheDemands(int[][] rows, Integer[][] answer) {
        if (!allows(answer, 0, new Integer[VARIABLES])) {
            return false;
        }
        for (int i = 0; i < SIZE; i++) {
            if (answer[i] != null && !goesOn(rows[i], i, answer)) {
                return false;
            }
        }
        return true;
    }

    /** Whether what goes on from a reached instruction is allowed for wherever it comes. */
    private static boolean goesOn(int[] row, int i, Integer[][] answer) {
        Integer[] behind = answer[i].clone();
        Integer v = behind[row[1]];
        switch (row[0]) {
            case HALT:
                return true;
            case JUMP:
                return allows(answer, row[2], behind);
            case ZERO:
                if (v != null && v != 0) {
                    return allows(answer, i + 1, behind);
                }
                boolean isNextAllowed = v != null || allows(answer, i + 1, behind);
                behind[row[1]] = 0;
                return isNextAllowed && allows(answer, row[2], behind);
            default:
                behind[row[1]] = result(row, answer[i]);
                return allows(answer, i + 1, behind);
        }
    }

    private static Integer result(int[] row, Integer[] before) {
        if (row[0] == SET) {
            return row[2];
        }
        Integer w = before[row[2]];
        if (row[0] == COPY) {
            return w;
        }
        Integer x = before[row[3]];
        if (row[0] == MUL && (isZero(w) || isZero(x))) {
            return 0;
        }
        if (w == null || x == null) {
            return null;
        }
        return row[0] == ADD ? w + x : row[0] == SUB ? w - x : w * x;
    }

    private static boolean isZero(Integer constant) {
        return constant != null && constant == 0;
    }

    private static boolean allows(Integer[][] answer, int i, Integer[] comes) {
        if (i >= SIZE) {
            return true;
        }
        for (int v = 0; v < VARIABLES && answer[i] != null; v++) {
            if (answer[i][v] != null && !answer[i][v].equals(comes[v])) {
                return false;
            }
        }
        return answer[i] != null;
    }
}
