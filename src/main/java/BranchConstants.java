import java.util.Arrays;

/**
 * Programs of few instructions over variables: which values are constant at which place,
 * the program rewritten by that, and runs of both. README.md says how it is used.
 */
public final class BranchConstants {
    public static final int SET = 0;
    public static final int COPY = 1;
    public static final int ADD = 2;
    public static final int SUB = 3;
    public static final int MUL = 4;
    public static final int ZERO = 5;
    public static final int JUMP = 6;
    public static final int HALT = 7;
    public static final int VARIES = 1;
    public static final int CONSTANT = 2;
    public static final int NONE = -1;

    private static final int MOST_INSTRUCTIONS = 40;
    private static final int VARIABLES = 6;
    private static final int MOST_STEPS = 10_000;
    private static final int UNREACHED = 0;

    private final Code program = new Code();
    private final Code rewritten = new Code();
    private final Analysis analysis = new Analysis();
    private final Rewriting rewriting = new Rewriting();
    private final Execution programRun = new Execution();
    private final Execution rewrittenRun = new Execution();
    private boolean isAnalysed;
    private boolean isRewritten;

    public BranchConstants() {
    }

    public int add(int kind, int one, int two, int three) throws IllegalArgumentException, IllegalStateException {
        refuseWrongInstruction(kind, one, two, three);
        if (program.count >= MOST_INSTRUCTIONS) {
            throw new IllegalStateException("the program is full");
        }
        program.count++;
        program.put(program.count - 1, kind, one, two, three);
        forgetWhatFollowed();
        return program.count;
    }

    public void change(int i, int kind, int one, int two, int three)
            throws IndexOutOfBoundsException, IllegalArgumentException {
        refuseWrongIndex(i);
        refuseWrongInstruction(kind, one, two, three);
        program.put(i, kind, one, two, three);
        forgetWhatFollowed();
    }

    public int clear() {
        int had = program.count;
        program.count = 0;
        forgetWhatFollowed();
        return had;
    }

    public boolean reached(int i) throws IndexOutOfBoundsException {
        refuseWrongIndex(i);
        analyseOnce();
        return analysis.isReached(i);
    }

    public int reachedAll() {
        analyseOnce();
        return analysis.countReached(program);
    }

    public int known(int i, int v) throws IndexOutOfBoundsException {
        refuseWrongIndex(i);
        refuseWrongVariable(v);
        analyseOnce();
        return analysis.states[cell(i, v)];
    }

    public int constant(int i, int v) throws IndexOutOfBoundsException {
        refuseWrongIndex(i);
        refuseWrongVariable(v);
        analyseOnce();
        return analysis.constants[cell(i, v)];
    }

    public int rewrite() throws IllegalStateException {
        if (program.count == 0) {
            throw new IllegalStateException("the program is empty");
        }
        analyseOnce();
        rewriting.perform(program, analysis, rewritten);
        isRewritten = true;
        rewrittenRun.isStarted = false;
        return rewritten.count;
    }

    public int code(int side, int i, int what) throws IllegalStateException, IndexOutOfBoundsException {
        refuseMissingRewritten(side);
        refuseWrongSide(side);
        Code asked = codeOf(side);
        if (i < 0 || i >= asked.count || what < 0 || what > 3) {
            throw new IndexOutOfBoundsException("no such instruction or number of it");
        }
        return asked.number(i, what);
    }

    public void start(int side, int a, int b, int c, int d) throws IndexOutOfBoundsException, IllegalStateException {
        refuseWrongSide(side);
        refuseMissingRewritten(side);
        runOf(side).begin(codeOf(side), a, b, c, d);
    }

    public int run(int side, int n)
            throws IndexOutOfBoundsException, IllegalArgumentException, IllegalStateException {
        refuseWrongSide(side);
        if (n < 0 || n > MOST_STEPS) {
            throw new IllegalArgumentException("no such number of steps");
        }
        refuseUnstarted(side);
        return runOf(side).advance(codeOf(side), n);
    }

    public int place(int side) throws IndexOutOfBoundsException, IllegalStateException {
        refuseWrongSide(side);
        refuseUnstarted(side);
        return runOf(side).place;
    }

    public int value(int side, int v) throws IndexOutOfBoundsException, IllegalStateException {
        refuseWrongSide(side);
        refuseWrongVariable(v);
        refuseUnstarted(side);
        return runOf(side).values[v];
    }

    public int steps(int side) throws IndexOutOfBoundsException, IllegalStateException {
        refuseWrongSide(side);
        refuseUnstarted(side);
        return runOf(side).steps;
    }

    /** What was found out about the program, rewritten from it or run of it holds no longer once it changes. */
    private void forgetWhatFollowed() {
        isAnalysed = false;
        isRewritten = false;
        programRun.isStarted = false;
        rewrittenRun.isStarted = false;
    }

    private void analyseOnce() {
        if (!isAnalysed) {
            analysis.perform(program);
            isAnalysed = true;
        }
    }

    private Code codeOf(int side) {
        return side == 0 ? program : rewritten;
    }

    private Execution runOf(int side) {
        return side == 0 ? programRun : rewrittenRun;
    }

    private void refuseWrongInstruction(int kind, int one, int two, int three) {
        if (!isInstruction(kind, one, two, three)) {
            throw new IllegalArgumentException("no such kind, variable or target");
        }
    }

    private void refuseWrongIndex(int i) {
        if (i < 0 || i >= program.count) {
            throw new IndexOutOfBoundsException("no such instruction");
        }
    }

    private void refuseWrongVariable(int v) {
        if (!isVariable(v)) {
            throw new IndexOutOfBoundsException("no such variable");
        }
    }

    private void refuseWrongSide(int side) {
        if (side != 0 && side != 1) {
            throw new IndexOutOfBoundsException("no such side");
        }
    }

    private void refuseMissingRewritten(int side) {
        if (side == 1 && !isRewritten) {
            throw new IllegalStateException("there is no rewritten program");
        }
    }

    private void refuseUnstarted(int side) {
        if (!runOf(side).isStarted) {
            throw new IllegalStateException("the run was not started, or not since the last change");
        }
    }

    private static boolean isInstruction(int kind, int one, int two, int three) {
        switch (kind) {
            case SET:
                return isVariable(one);
            case COPY:
                return isVariable(one) && isVariable(two);
            case ADD:
            case SUB:
            case MUL:
                return isVariable(one) && isVariable(two) && isVariable(three);
            case ZERO:
                return isVariable(one) && isTarget(two);
            case JUMP:
                return isTarget(two);
            default:
                return kind == HALT;
        }
    }

    private static boolean isVariable(int v) {
        return v >= 0 && v < VARIABLES;
    }

    private static boolean isTarget(int t) {
        return t >= 0 && t <= MOST_INSTRUCTIONS;
    }

    /** Where a variable before an instruction stands in the rows of the analysis. */
    private static int cell(int i, int v) {
        return i * VARIABLES + v;
    }

    private static int calculate(int kind, int w, int x) {
        switch (kind) {
            case ADD:
                return w + x;
            case SUB:
                return w - x;
            default:
                return w * x;
        }
    }

    /** The instructions of a program, a row for their kinds and one for each of their numbers. */
    private static final class Code {
        private final int[] kinds = new int[MOST_INSTRUCTIONS];
        private final int[] ones = new int[MOST_INSTRUCTIONS];
        private final int[] twos = new int[MOST_INSTRUCTIONS];
        private final int[] threes = new int[MOST_INSTRUCTIONS];
        private int count;

        /** Numbers that the kind does not need become 0, for so they are told when asked for. */
        private void put(int i, int kind, int one, int two, int three) {
            kinds[i] = kind;
            ones[i] = kind == JUMP || kind == HALT ? 0 : one;
            twos[i] = kind == HALT ? 0 : two;
            threes[i] = kind == ADD || kind == SUB || kind == MUL ? three : 0;
        }

        private void putAllOf(Code other) {
            count = other.count;
            for (int i = 0; i < count; i++) {
                put(i, other.kinds[i], other.ones[i], other.twos[i], other.threes[i]);
            }
        }

        private int number(int i, int what) {
            switch (what) {
                case 0:
                    return kinds[i];
                case 1:
                    return ones[i];
                case 2:
                    return twos[i];
                default:
                    return threes[i];
            }
        }

        private boolean assigns(int i) {
            return kinds[i] <= MUL;
        }

        private boolean hasTarget(int i) {
            return kinds[i] == ZERO || kinds[i] == JUMP;
        }

        /** The target of a ZERO or JUMP; every target that is the END is told as the same number. */
        private int target(int i) {
            return twos[i] < count ? twos[i] : count;
        }
    }

    /** THE ANALYSIS: states rise only as far as they must, so what they come to rest at is the least answer. */
    private static final class Analysis {
        /** An instruction waits at most once for being reached and once for each variable that comes to vary. */
        private static final int MOST_ROUNDS = MOST_INSTRUCTIONS * (VARIABLES + 1) + 1;

        private final int[] states = new int[MOST_INSTRUCTIONS * VARIABLES];
        private final int[] constants = new int[MOST_INSTRUCTIONS * VARIABLES];
        private final boolean[] isWaiting = new boolean[MOST_INSTRUCTIONS];
        private final int[] statesBehind = new int[VARIABLES];
        private final int[] constantsBehind = new int[VARIABLES];
        private int result;

        private void perform(Code code) {
            Arrays.fill(states, UNREACHED);
            Arrays.fill(constants, 0);
            Arrays.fill(statesBehind, VARIES);
            Arrays.fill(constantsBehind, 0);
            comeTo(code, 0);
            boolean hasMoved = true;
            for (int round = 0; hasMoved && round < MOST_ROUNDS; round++) {
                hasMoved = false;
                for (int i = 0; i < code.count; i++) {
                    if (isWaiting[i]) {
                        isWaiting[i] = false;
                        hasMoved = true;
                        goOnFrom(code, i);
                    }
                }
            }
        }

        private void goOnFrom(Code code, int i) {
            System.arraycopy(states, cell(i, 0), statesBehind, 0, VARIABLES);
            System.arraycopy(constants, cell(i, 0), constantsBehind, 0, VARIABLES);
            if (code.assigns(i)) {
                if (hasConstantResult(code, i)) {
                    setConstantBehind(code.ones[i], result);
                } else {
                    setVaryingBehind(code.ones[i]);
                }
                comeTo(code, i + 1);
            } else if (code.kinds[i] == JUMP) {
                comeTo(code, code.target(i));
            } else if (code.kinds[i] == ZERO) {
                goOnFromZero(code, i);
            }
        }

        private void goOnFromZero(Code code, int i) {
            if (hasConstantTest(code, i)) {
                comeTo(code, wayOfConstantTest(code, i));
            } else {
                comeTo(code, i + 1);
                setConstantBehind(code.ones[i], 0);
                comeTo(code, code.target(i));
            }
        }

        /** Joins what stands behind an instruction with what is held before the one where it goes on. */
        private void comeTo(Code code, int i) {
            if (i >= code.count) {
                return;
            }
            for (int v = 0; v < VARIABLES; v++) {
                int at = cell(i, v);
                if (states[at] == UNREACHED) {
                    states[at] = statesBehind[v];
                    constants[at] = constantsBehind[v];
                    isWaiting[i] = true;
                } else if (states[at] == CONSTANT && !isBehind(v, constants[at])) {
                    states[at] = VARIES;
                    constants[at] = 0;
                    isWaiting[i] = true;
                }
            }
        }

        private boolean isBehind(int v, int constant) {
            return statesBehind[v] == CONSTANT && constantsBehind[v] == constant;
        }

        private void setConstantBehind(int v, int constant) {
            statesBehind[v] = CONSTANT;
            constantsBehind[v] = constant;
        }

        private void setVaryingBehind(int v) {
            statesBehind[v] = VARIES;
            constantsBehind[v] = 0;
        }

        /** Whether a reached SET, COPY, ADD, SUB or MUL makes its variable constant; then result is that constant. */
        private boolean hasConstantResult(Code code, int i) {
            int kind = code.kinds[i];
            if (kind == SET) {
                result = code.twos[i];
                return true;
            }
            int w = cell(i, code.twos[i]);
            if (kind == COPY) {
                result = constants[w];
                return states[w] == CONSTANT;
            }
            int x = cell(i, code.threes[i]);
            if (kind == MUL && (isConstantZero(w) || isConstantZero(x))) {
                result = 0;
                return true;
            }
            result = calculate(kind, constants[w], constants[x]);
            return states[w] == CONSTANT && states[x] == CONSTANT;
        }

        private boolean isConstantZero(int at) {
            return states[at] == CONSTANT && constants[at] == 0;
        }

        private boolean hasConstantTest(Code code, int i) {
            return states[cell(i, code.ones[i])] == CONSTANT;
        }

        private int wayOfConstantTest(Code code, int i) {
            return constants[cell(i, code.ones[i])] == 0 ? code.target(i) : i + 1;
        }

        /** Before a reached instruction every variable has a state, so the first one tells. */
        private boolean isReached(int i) {
            return states[cell(i, 0)] != UNREACHED;
        }

        private int countReached(Code code) {
            int count = 0;
            for (int i = 0; i < code.count; i++) {
                if (isReached(i)) {
                    count++;
                }
            }
            return count;
        }
    }

    /** REWRITING: the four steps work in place on a copy of the program. */
    private static final class Rewriting {
        private final boolean[] stays = new boolean[MOST_INSTRUCTIONS];
        private final int[] queue = new int[MOST_INSTRUCTIONS];
        private final int[] newNumbers = new int[MOST_INSTRUCTIONS + 1];
        private int queued;

        private void perform(Code program, Analysis analysis, Code copy) {
            copy.putAllOf(program);
            fold(program, analysis, copy);
            thread(copy);
            keepWhatCanBeComeTo(copy);
            dropJumpsToTheNext(copy);
            numberAnew(copy);
        }

        private static void fold(Code program, Analysis analysis, Code copy) {
            for (int i = 0; i < program.count; i++) {
                if (!analysis.isReached(i)) {
                    continue;
                }
                if (program.assigns(i) && analysis.hasConstantResult(program, i)) {
                    copy.put(i, SET, program.ones[i], analysis.result, 0);
                } else if (program.kinds[i] == ZERO && analysis.hasConstantTest(program, i)) {
                    copy.put(i, JUMP, 0, analysis.wayOfConstantTest(program, i), 0);
                }
            }
        }

        /** In any order: a target put further on along its chain leaves every chain's end as it was. */
        private static void thread(Code code) {
            for (int i = 0; i < code.count; i++) {
                if (code.hasTarget(i)) {
                    code.twos[i] = endOfChain(code, code.target(i));
                }
            }
        }

        private static int endOfChain(Code code, int first) {
            int t = first;
            for (int hops = 0; hops <= code.count; hops++) {
                if (t >= code.count || code.kinds[t] != JUMP) {
                    return t;
                }
                t = code.target(t);
            }
            // More hops than there are instructions: the chain goes round for ever.
            return first;
        }

        private void keepWhatCanBeComeTo(Code code) {
            for (int i = 0; i < code.count; i++) {
                stays[i] = false;
            }
            queued = 0;
            keep(code, 0);
            for (int done = 0; done < queued && done < code.count; done++) {
                int i = queue[done];
                if (code.hasTarget(i)) {
                    keep(code, code.target(i));
                }
                if (code.kinds[i] != JUMP && code.kinds[i] != HALT) {
                    keep(code, i + 1);
                }
            }
        }

        private void keep(Code code, int i) {
            if (i < code.count && !stays[i]) {
                stays[i] = true;
                queue[queued] = i;
                queued++;
            }
        }

        private void dropJumpsToTheNext(Code code) {
            int next = code.count;
            for (int i = code.count - 1; i >= 0; i--) {
                if (stays[i] && code.kinds[i] == JUMP && code.target(i) == next) {
                    stays[i] = false;
                } else if (stays[i]) {
                    next = i;
                }
            }
        }

        private void numberAnew(Code code) {
            int left = 0;
            for (int i = 0; i < code.count; i++) {
                newNumbers[i] = left;
                if (stays[i]) {
                    left++;
                }
            }
            newNumbers[code.count] = left;
            for (int i = 0; i < code.count; i++) {
                if (stays[i]) {
                    moveToNewNumber(code, i);
                }
            }
            code.count = left;
        }

        /** In place: a new number is never above the old one, so nothing is overwritten before it has moved. */
        private void moveToNewNumber(Code code, int i) {
            int two = code.hasTarget(i) ? newNumbers[code.target(i)] : code.twos[i];
            code.put(newNumbers[i], code.kinds[i], code.ones[i], two, code.threes[i]);
        }
    }

    /** A run: its variables, its place and how many steps it has done. */
    private static final class Execution {
        private final int[] values = new int[VARIABLES];
        private int place;
        private int steps;
        private boolean isStarted;

        private void begin(Code code, int a, int b, int c, int d) {
            Arrays.fill(values, 0);
            values[0] = a;
            values[1] = b;
            values[2] = c;
            values[3] = d;
            steps = 0;
            isStarted = true;
            goTo(code, 0);
        }

        private int advance(Code code, int most) {
            int done = 0;
            while (done < most && place != NONE) {
                step(code, place);
                done++;
            }
            steps += done;
            return done;
        }

        private void step(Code code, int i) {
            switch (code.kinds[i]) {
                case HALT:
                    goTo(code, code.count);
                    break;
                case JUMP:
                    goTo(code, code.target(i));
                    break;
                case ZERO:
                    goTo(code, values[code.ones[i]] == 0 ? code.target(i) : i + 1);
                    break;
                default:
                    values[code.ones[i]] = assigned(code, i);
                    goTo(code, i + 1);
                    break;
            }
        }

        private int assigned(Code code, int i) {
            int kind = code.kinds[i];
            if (kind == SET) {
                return code.twos[i];
            }
            if (kind == COPY) {
                return values[code.twos[i]];
            }
            return calculate(kind, values[code.twos[i]], values[code.threes[i]]);
        }

        private void goTo(Code code, int i) {
            place = i < code.count ? i : NONE;
        }
    }
}
