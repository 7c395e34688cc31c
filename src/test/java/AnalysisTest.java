/** Promises 5 to 8: reached, reachedAll, known, constant. */
final class AnalysisTest {
    private static final int SET = BranchConstants.SET;
    private static final int COPY = BranchConstants.COPY;
    private static final int ADD = BranchConstants.ADD;
    private static final int SUB = BranchConstants.SUB;
    private static final int MUL = BranchConstants.MUL;
    private static final int ZERO = BranchConstants.ZERO;
    private static final int JUMP = BranchConstants.JUMP;
    private static final int HALT = BranchConstants.HALT;
    private static final int VARIES = BranchConstants.VARIES;
    private static final int CONSTANT = BranchConstants.CONSTANT;
    private static final int MIN = Integer.MIN_VALUE;
    private static final int MAX = Integer.MAX_VALUE;
    private static final Check CHECK = new Check();

    public static void main(String[] args) {
        atTheBeginningAllVary();
        eachKindBringsItsConstant();
        arithmeticWraps();
        mulByTheConstantZero();
        subOfTheSameVaries();
        zeroTakesItsOneWay();
        zeroThatVariesGoesBothWays();
        zeroToTheNext();
        jumpAndHalt();
        theEndIsNoInstruction();
        joins();
        loops();
        theLeastAnswer();
        aLongChain();
        aLongWayRound();
        backToTheBeginning();
        wrongNumbers();
        CHECK.end();
    }

    private static void constantIs(String name, BranchConstants x, int i, int v, int want) {
        CHECK.due(name + ": known(" + i + ", " + v + ")", CONSTANT, x.known(i, v));
        CHECK.due(name + ": constant(" + i + ", " + v + ")", want, x.constant(i, v));
    }

    private static void varies(String name, BranchConstants x, int i, int v) {
        CHECK.due(name + ": known(" + i + ", " + v + ")", VARIES, x.known(i, v));
        CHECK.due(name + ": constant(" + i + ", " + v + ")", 0, x.constant(i, v));
    }

    private static void isUnreached(String name, BranchConstants x, int i) {
        CHECK.due(name + ": reached(" + i + ")", false, x.reached(i));
        for (int v = 0; v < 6; v++) {
            CHECK.due(name + ": known(" + i + ", " + v + ")", 0, x.known(i, v));
            CHECK.due(name + ": constant(" + i + ", " + v + ")", 0, x.constant(i, v));
        }
    }

    private static void atTheBeginningAllVary() {
        BranchConstants x = Check.program(new int[] {HALT});
        CHECK.due("first: reached(0)", true, x.reached(0));
        CHECK.due("first: reachedAll()", 1, x.reachedAll());
        for (int v = 0; v < 6; v++) {
            varies("first", x, 0, v);
        }
    }

    private static void eachKindBringsItsConstant() {
        BranchConstants x = Check.program(new int[] {SET, 0, 7}, new int[] {SET, 5, -3}, new int[] {COPY, 1, 0},
                new int[] {ADD, 2, 0, 5}, new int[] {SUB, 3, 0, 5}, new int[] {MUL, 4, 0, 5},
                new int[] {COPY, 0, 0}, new int[] {HALT});
        String name = "each kind";
        varies(name, x, 0, 0);
        constantIs(name, x, 1, 0, 7);
        varies(name, x, 1, 5);
        constantIs(name, x, 2, 5, -3);
        varies(name, x, 2, 1);
        constantIs(name, x, 3, 1, 7);
        constantIs(name, x, 4, 2, 4);
        constantIs(name, x, 5, 3, 10);
        constantIs(name, x, 6, 4, -21);
        constantIs(name, x, 7, 0, 7);
        x.change(0, COPY, 0, 4, 0);
        for (int v = 0; v < 5; v++) {
            varies("of what varies", x, 7, v);
        }
        constantIs("of what varies", x, 7, 5, -3);
        x.change(0, SET, 0, 7, 0);
        x.change(1, COPY, 5, 4, 0);
        constantIs("of the second that varies", x, 7, 1, 7);
        for (int v = 2; v < 5; v++) {
            varies("of the second that varies", x, 7, v);
        }
    }

    private static void arithmeticWraps() {
        BranchConstants x = Check.program(new int[] {SET, 0, MAX}, new int[] {SET, 1, MIN}, new int[] {SET, 2, 1},
                new int[] {ADD, 3, 0, 2}, new int[] {SUB, 4, 1, 2}, new int[] {MUL, 5, 0, 0}, new int[] {HALT});
        constantIs("wraps", x, 6, 3, MIN);
        constantIs("wraps", x, 6, 4, MAX);
        constantIs("wraps", x, 6, 5, 1);
    }

    private static void mulByTheConstantZero() {
        BranchConstants x = Check.program(new int[] {SET, 0, 0}, new int[] {MUL, 1, 0, 2}, new int[] {MUL, 3, 2, 0},
                new int[] {SET, 4, 1}, new int[] {MUL, 5, 4, 2}, new int[] {ADD, 2, 0, 2}, new int[] {HALT});
        constantIs("mul by 0", x, 6, 1, 0);
        constantIs("mul by 0", x, 6, 3, 0);
        varies("mul by 1", x, 6, 5);
        varies("add to 0", x, 6, 2);
        BranchConstants y = Check.program(new int[] {MUL, 0, 1, 2}, new int[] {HALT});
        varies("mul of two that vary", y, 1, 0);
    }

    private static void subOfTheSameVaries() {
        BranchConstants x = Check.program(new int[] {SUB, 2, 2, 2}, new int[] {HALT});
        varies("sub of the same", x, 1, 2);
    }

    private static void zeroTakesItsOneWay() {
        int[] constants = {0, 1, -1, MIN};
        for (int k : constants) {
            BranchConstants x = Check.program(new int[] {SET, 3, k}, new int[] {ZERO, 3, 4}, new int[] {SET, 0, 1},
                    new int[] {HALT}, new int[] {SET, 0, 2}, new int[] {HALT});
            int[] taken = k == 0 ? new int[] {4, 5} : new int[] {2, 3};
            int[] left = k == 0 ? new int[] {2, 3} : new int[] {4, 5};
            String name = "zero of " + k;
            CHECK.due(name + ": reachedAll()", 4, x.reachedAll());
            for (int n = 0; n < 2; n++) {
                CHECK.due(name + ": reached", true, x.reached(taken[n]));
                constantIs(name, x, taken[n], 3, k);
                isUnreached(name, x, left[n]);
            }
        }
    }

    private static void zeroThatVariesGoesBothWays() {
        BranchConstants x = Check.program(new int[] {SET, 1, 8}, new int[] {ZERO, 2, 3}, new int[] {HALT},
                new int[] {ADD, 4, 2, 1}, new int[] {HALT});
        CHECK.due("both ways: reachedAll()", 5, x.reachedAll());
        varies("not zero", x, 2, 2);
        constantIs("not zero", x, 2, 1, 8);
        constantIs("zero", x, 3, 2, 0);
        constantIs("zero", x, 3, 1, 8);
        varies("zero, another variable", x, 3, 0);
        constantIs("zero", x, 4, 4, 8);
    }

    private static void zeroToTheNext() {
        BranchConstants x = Check.program(new int[] {ZERO, 2, 1}, new int[] {HALT});
        varies("zero to the next", x, 1, 2);
        BranchConstants y = Check.program(new int[] {ZERO, 2, 0}, new int[] {HALT});
        varies("zero to itself", y, 0, 2);
        varies("behind zero to itself", y, 1, 2);
    }

    private static void jumpAndHalt() {
        BranchConstants x = Check.program(new int[] {JUMP, 0, 2}, new int[] {SET, 0, 1}, new int[] {HALT},
                new int[] {SET, 0, 2}, new int[] {JUMP, 0, 1});
        CHECK.due("jump and halt: reachedAll()", 2, x.reachedAll());
        CHECK.due("jump and halt: reached(0)", true, x.reached(0));
        isUnreached("over the jump", x, 1);
        CHECK.due("jump and halt: reached(2)", true, x.reached(2));
        isUnreached("behind the halt", x, 3);
        isUnreached("behind the halt", x, 4);
    }

    private static void theEndIsNoInstruction() {
        BranchConstants x = Check.program(new int[] {ZERO, 0, 40}, new int[] {ZERO, 1, 3}, new int[] {SET, 0, 1});
        CHECK.due("end: reachedAll()", 3, x.reachedAll());
        CHECK.index("end: reached(3)", () -> x.reached(3));
        x.add(HALT, 0, 0, 0);
        CHECK.due("once the end is an instruction: reachedAll()", 4, x.reachedAll());
        varies("once the end is an instruction", x, 3, 1);
    }

    private static void joins() {
        int[][] rows = {{ZERO, 0, 4}, {SET, 1, 5}, {SET, 2, 6}, {JUMP, 0, 7}, {SET, 1, 5}, {SET, 2, 7}, {SET, 3, 1},
            {HALT}};
        BranchConstants x = Check.program(rows);
        constantIs("same constants", x, 7, 1, 5);
        varies("different constants", x, 7, 2);
        varies("a constant and a varying", x, 7, 3);
        varies("zero and a varying", x, 7, 0);
        varies("never set", x, 7, 4);
        x.change(1, SET, 0, 0, 0);
        constantIs("zero both ways", x, 7, 0, 0);
        varies("a varying and a constant", x, 7, 1);
    }

    private static void loops() {
        BranchConstants x = Check.program(new int[] {SET, 0, 3}, new int[] {SET, 1, 1}, new int[] {SET, 2, 9},
                new int[] {ZERO, 0, 6}, new int[] {SUB, 0, 0, 1}, new int[] {JUMP, 0, 3}, new int[] {HALT});
        varies("counter", x, 3, 0);
        varies("counter", x, 4, 0);
        constantIs("one of the loop", x, 3, 1, 1);
        constantIs("beside the loop", x, 6, 2, 9);
        constantIs("behind the loop", x, 6, 0, 0);
        CHECK.due("loop: reachedAll()", 7, x.reachedAll());
    }

    /** Going round with the constant that would only vary if the way that changes it could be taken. */
    private static void theLeastAnswer() {
        BranchConstants x = Check.program(new int[] {SET, 0, 1}, new int[] {ZERO, 0, 4}, new int[] {ZERO, 1, 1},
                new int[] {HALT}, new int[] {SET, 0, 2}, new int[] {JUMP, 0, 1});
        CHECK.due("least: reachedAll()", 4, x.reachedAll());
        constantIs("least", x, 1, 0, 1);
        constantIs("least", x, 2, 0, 1);
        isUnreached("least", x, 4);
        isUnreached("least", x, 5);
        BranchConstants y = Check.program(new int[] {SET, 0, 4}, new int[] {COPY, 0, 0}, new int[] {JUMP, 0, 1});
        constantIs("least of a copy to itself", y, 1, 0, 4);
    }

    /** What varies comes back through one variable after the other, and backwards through the program. */
    private static void aLongChain() {
        BranchConstants x = new BranchConstants();
        for (int v = 0; v < 6; v++) {
            x.add(SET, v, 1, 0);
        }
        for (int v = 0; v < 5; v++) {
            x.add(COPY, v, v + 1, 0);
        }
        x.add(ADD, 5, 5, 5);
        x.add(JUMP, 0, 6, 0);
        for (int v = 0; v < 6; v++) {
            varies("chain", x, 6, v);
        }
        BranchConstants y = new BranchConstants();
        y.add(JUMP, 0, 39, 0);
        y.add(HALT, 0, 0, 0);
        for (int i = 2; i < 40; i++) {
            y.add(JUMP, 0, i - 1, 0);
        }
        CHECK.due("backwards: reachedAll()", 40, y.reachedAll());
    }

    /** A loop that goes backwards through most of the program, and has to be gone round for each variable. */
    private static void aLongWayRound() {
        BranchConstants x = new BranchConstants();
        for (int v = 0; v < 6; v++) {
            x.add(SET, v, 1, 0);
        }
        for (int v = 0; v < 5; v++) {
            x.add(COPY, v, v + 1, 0);
        }
        x.add(ADD, 5, 5, 5);
        x.add(JUMP, 0, 39, 0);
        x.add(JUMP, 0, 6, 0);
        for (int i = 14; i < 40; i++) {
            x.add(JUMP, 0, i - 1, 0);
        }
        CHECK.due("long way: reachedAll()", 40, x.reachedAll());
        for (int i = 6; i < 40; i += 33) {
            varies("long way", x, i, 0);
            varies("long way", x, i, 5);
        }
        constantIs("before the long way", x, 5, 0, 1);
    }

    private static void backToTheBeginning() {
        BranchConstants x = Check.program(new int[] {ADD, 1, 0, 0}, new int[] {SET, 0, 0}, new int[] {JUMP, 0, 0});
        varies("back to 0", x, 0, 0);
        varies("back to 0", x, 1, 1);
        constantIs("back to 0", x, 2, 0, 0);
    }

    private static void wrongNumbers() {
        BranchConstants x = Check.program(new int[] {HALT}, new int[] {HALT});
        int[] indices = {-1, 2, 40, MIN, MAX};
        for (int i : indices) {
            CHECK.index("reached(" + i + ")", () -> x.reached(i));
            CHECK.index("known(" + i + ", 0)", () -> x.known(i, 0));
            CHECK.index("constant(" + i + ", 0)", () -> x.constant(i, 0));
        }
        int[] variables = {-1, 6, MIN, MAX};
        for (int v : variables) {
            for (int i = 0; i < 2; i++) {
                int at = i;
                CHECK.index("known(" + i + ", " + v + ")", () -> x.known(at, v));
                CHECK.index("constant(" + i + ", " + v + ")", () -> x.constant(at, v));
            }
        }
    }
}
