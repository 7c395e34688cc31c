/** What the tests write programs with: for each instruction a row of its kind and its three numbers. */
abstract class Rows {
    static final int SET = BranchConstants.SET;
    static final int COPY = BranchConstants.COPY;
    static final int ADD = BranchConstants.ADD;
    static final int SUB = BranchConstants.SUB;
    static final int MUL = BranchConstants.MUL;
    static final int ZERO = BranchConstants.ZERO;
    static final int JUMP = BranchConstants.JUMP;
    static final int HALT = BranchConstants.HALT;
    static final int VARIES = BranchConstants.VARIES;
    static final int CONSTANT = BranchConstants.CONSTANT;
    static final int NONE = BranchConstants.NONE;
    static final int MIN = Integer.MIN_VALUE;
    static final int MAX = Integer.MAX_VALUE;

    /** Every test is a program of its own, so one count for all that it asks is enough. */
    static final Check CHECK = new Check();

    static int[] set(int v, int k) {
        return new int[] {SET, v, k, 0};
    }

    static int[] copy(int v, int w) {
        return new int[] {COPY, v, w, 0};
    }

    static int[] add(int v, int w, int x) {
        return new int[] {ADD, v, w, x};
    }

    static int[] sub(int v, int w, int x) {
        return new int[] {SUB, v, w, x};
    }

    static int[] mul(int v, int w, int x) {
        return new int[] {MUL, v, w, x};
    }

    static int[] zero(int v, int t) {
        return new int[] {ZERO, v, t, 0};
    }

    static int[] jump(int t) {
        return new int[] {JUMP, 0, t, 0};
    }

    static int[] halt() {
        return new int[] {HALT, 0, 0, 0};
    }

    static BranchConstants program(int[]... rows) {
        BranchConstants x = new BranchConstants();
        for (int[] row : rows) {
            x.add(row[0], row[1], row[2], row[3]);
        }
        return x;
    }

    /** So many times the same instruction. */
    static BranchConstants programOf(int count, int[] row) {
        BranchConstants x = new BranchConstants();
        for (int i = 0; i < count; i++) {
            x.add(row[0], row[1], row[2], row[3]);
        }
        return x;
    }
}
