/** Promises 9 and 10: rewrite, code. */
final class RewriteTest {
    private static final int SET = BranchConstants.SET;
    private static final int COPY = BranchConstants.COPY;
    private static final int ADD = BranchConstants.ADD;
    private static final int SUB = BranchConstants.SUB;
    private static final int MUL = BranchConstants.MUL;
    private static final int ZERO = BranchConstants.ZERO;
    private static final int JUMP = BranchConstants.JUMP;
    private static final int HALT = BranchConstants.HALT;
    private static final int MIN = Integer.MIN_VALUE;
    private static final int MAX = Integer.MAX_VALUE;
    private static final Check CHECK = new Check();

    public static void main(String[] args) {
        foldsWhatIsConstant();
        foldsZero();
        leavesZeroThatVaries();
        threadsThroughJumps();
        threadsThroughFoldedZeros();
        threadsToTheEnd();
        leavesJumpsThatGoRound();
        dropsWhatCannotBeComeTo();
        dropsJumpsFromTheLastToTheFirst();
        dropsJumpsToTheEnd();
        jumpsRoundOneAnother();
        leavesNothing();
        numbersAnew();
        ofFortyInstructions();
        leavesTheProgram();
        again();
        refusesTheEmptyProgram();
        codeRefuses();
        CHECK.end();
    }

    private static void foldsWhatIsConstant() {
        BranchConstants x = Check.program(new int[] {SET, 0, 7}, new int[] {SET, 1, MIN}, new int[] {COPY, 2, 0},
                new int[] {ADD, 3, 0, 0}, new int[] {SUB, 3, 1, 0}, new int[] {MUL, 0, 0, 0},
                new int[] {SET, 1, 0}, new int[] {MUL, 2, 1, 4}, new int[] {MUL, 2, 4, 1});
        CHECK.rewritten("fold", x, new int[] {SET, 0, 7}, new int[] {SET, 1, MIN}, new int[] {SET, 2, 7},
                new int[] {SET, 3, 14}, new int[] {SET, 3, MIN - 7}, new int[] {SET, 0, 49},
                new int[] {SET, 1, 0}, new int[] {SET, 2, 0}, new int[] {SET, 2, 0});
        BranchConstants y = Check.program(new int[] {COPY, 2, 0}, new int[] {ADD, 3, 0, 1}, new int[] {SUB, 3, 3, 3},
                new int[] {MUL, 5, 4, 3}, new int[] {SET, 0, 1}, new int[] {MUL, 1, 0, 2}, new int[] {HALT});
        CHECK.rewritten("nothing to fold", y, new int[] {COPY, 2, 0}, new int[] {ADD, 3, 0, 1},
                new int[] {SUB, 3, 3, 3}, new int[] {MUL, 5, 4, 3}, new int[] {SET, 0, 1},
                new int[] {MUL, 1, 0, 2}, new int[] {HALT});
    }

    private static void foldsZero() {
        int[][] rows = {{SET, 0, 0}, {ZERO, 0, 4}, {SET, 1, 1}, {HALT}, {SET, 1, 2}, {HALT}};
        BranchConstants x = Check.program(rows);
        CHECK.rewritten("zero is taken", x, new int[] {SET, 0, 0}, new int[] {SET, 1, 2}, new int[] {HALT});
        x.change(0, SET, 0, 5, 0);
        CHECK.rewritten("zero is not taken", x, new int[] {SET, 0, 5}, new int[] {SET, 1, 1}, new int[] {HALT});
        BranchConstants back = Check.program(new int[] {SET, 0, 0}, new int[] {ADD, 1, 1, 2}, new int[] {ZERO, 0, 1},
                new int[] {HALT});
        CHECK.rewritten("zero back is a jump", back, new int[] {SET, 0, 0}, new int[] {ADD, 1, 1, 2},
                new int[] {JUMP, 0, 1});
        BranchConstants last = Check.program(new int[] {SET, 0, 1}, new int[] {ZERO, 0, 0});
        CHECK.rewritten("zero at the end is not taken", last, new int[] {SET, 0, 1});
    }

    private static void leavesZeroThatVaries() {
        BranchConstants x = Check.program(new int[] {ZERO, 4, 1}, new int[] {ZERO, 5, 40});
        CHECK.rewritten("zero to the next", x, new int[] {ZERO, 4, 1}, new int[] {ZERO, 5, 2});
    }

    private static void threadsThroughJumps() {
        BranchConstants x = Check.program(new int[] {ZERO, 0, 6}, new int[] {SET, 1, 1}, new int[] {JUMP, 0, 5},
                new int[] {SET, 2, 2}, new int[] {HALT}, new int[] {JUMP, 0, 3}, new int[] {JUMP, 0, 5});
        CHECK.rewritten("thread", x, new int[] {ZERO, 0, 2}, new int[] {SET, 1, 1}, new int[] {SET, 2, 2},
                new int[] {HALT});
        BranchConstants stays = Check.program(new int[] {ZERO, 0, 3}, new int[] {SET, 1, 1}, new int[] {JUMP, 0, 4},
                new int[] {HALT}, new int[] {JUMP, 0, 6}, new int[] {HALT}, new int[] {SUB, 1, 1, 0});
        CHECK.rewritten("a threaded jump that stays", stays, new int[] {ZERO, 0, 3}, new int[] {SET, 1, 1},
                new int[] {JUMP, 0, 4}, new int[] {HALT}, new int[] {SUB, 1, 1, 0});
    }

    private static void threadsThroughFoldedZeros() {
        BranchConstants x = Check.program(new int[] {SET, 0, 0}, new int[] {ZERO, 1, 4}, new int[] {SET, 2, 1},
                new int[] {HALT}, new int[] {ZERO, 0, 6}, new int[] {HALT}, new int[] {SET, 2, 2});
        CHECK.rewritten("thread through a folded zero", x, new int[] {SET, 0, 0}, new int[] {ZERO, 1, 4},
                new int[] {SET, 2, 1}, new int[] {HALT}, new int[] {SET, 2, 2});
    }

    private static void threadsToTheEnd() {
        BranchConstants x = Check.program(new int[] {ZERO, 0, 3}, new int[] {SET, 1, 1}, new int[] {HALT},
                new int[] {JUMP, 0, 39});
        CHECK.rewritten("thread to the end", x, new int[] {ZERO, 0, 3}, new int[] {SET, 1, 1}, new int[] {HALT});
        BranchConstants y = Check.program(new int[] {ZERO, 0, 2}, new int[] {JUMP, 0, 4}, new int[] {SET, 1, 1},
                new int[] {HALT}, new int[] {JUMP, 0, 5});
        CHECK.rewritten("a jump to the end that stays", y, new int[] {ZERO, 0, 2}, new int[] {JUMP, 0, 4},
                new int[] {SET, 1, 1}, new int[] {HALT});
    }

    private static void leavesJumpsThatGoRound() {
        BranchConstants self = Check.program(new int[] {JUMP, 0, 0});
        CHECK.rewritten("a jump to itself", self, new int[] {JUMP, 0, 0});
        BranchConstants into = Check.program(new int[] {ZERO, 0, 3}, new int[] {HALT}, new int[] {JUMP, 0, 2},
                new int[] {JUMP, 0, 2});
        CHECK.rewritten("a target before a jump that goes round stays", into, new int[] {ZERO, 0, 3},
                new int[] {HALT}, new int[] {JUMP, 0, 2}, new int[] {JUMP, 0, 2});
        BranchConstants folded = Check.program(new int[] {SET, 0, 0}, new int[] {ZERO, 0, 1}, new int[] {HALT});
        CHECK.rewritten("a zero that goes round", folded, new int[] {SET, 0, 0}, new int[] {JUMP, 0, 1});
    }

    private static void dropsWhatCannotBeComeTo() {
        BranchConstants x = Check.program(new int[] {ZERO, 0, 4}, new int[] {HALT}, new int[] {SET, 1, 1},
                new int[] {JUMP, 0, 2}, new int[] {SET, 1, 2}, new int[] {HALT}, new int[] {ADD, 0, 0, 0});
        CHECK.rewritten("drop", x, new int[] {ZERO, 0, 2}, new int[] {HALT}, new int[] {SET, 1, 2},
                new int[] {HALT});
        BranchConstants y = Check.program(new int[] {SET, 0, 1}, new int[] {HALT}, new int[] {HALT});
        CHECK.rewritten("drop behind a halt", y, new int[] {SET, 0, 1}, new int[] {HALT});
    }

    /** The jump at 2 goes first; only then is what the jump at 0 goes to the first one behind it. */
    private static void dropsJumpsFromTheLastToTheFirst() {
        BranchConstants x = Check.program(new int[] {ZERO, 0, 2}, new int[] {JUMP, 0, 3}, new int[] {JUMP, 0, 3},
                new int[] {SET, 1, 1});
        CHECK.rewritten("one jump behind another", x, new int[] {ZERO, 0, 1}, new int[] {SET, 1, 1});
        BranchConstants y = Check.program(new int[] {ZERO, 0, 3}, new int[] {ZERO, 1, 4}, new int[] {JUMP, 0, 5},
                new int[] {SET, 2, 1}, new int[] {SET, 2, 2}, new int[] {SET, 2, 3});
        CHECK.rewritten("a jump over what stays", y, new int[] {ZERO, 0, 3}, new int[] {ZERO, 1, 4},
                new int[] {JUMP, 0, 5}, new int[] {SET, 2, 1}, new int[] {SET, 2, 2}, new int[] {SET, 2, 3});
        BranchConstants z = Check.program(new int[] {ADD, 0, 0, 0}, new int[] {JUMP, 0, 4}, new int[] {HALT},
                new int[] {HALT}, new int[] {SET, 1, 1}, new int[] {JUMP, 0, 0});
        CHECK.rewritten("a jump over what goes", z, new int[] {ADD, 0, 0, 0}, new int[] {SET, 1, 1},
                new int[] {JUMP, 0, 0});
    }

    private static void dropsJumpsToTheEnd() {
        int[] ends = {3, 4, 40};
        for (int end : ends) {
            BranchConstants x = Check.program(new int[] {ZERO, 0, 40}, new int[] {SET, 1, 1},
                    new int[] {JUMP, 0, end});
            CHECK.rewritten("a jump to the end " + end, x, new int[] {ZERO, 0, 2}, new int[] {SET, 1, 1});
        }
        BranchConstants y = Check.program(new int[] {ZERO, 0, 2}, new int[] {JUMP, 0, 40}, new int[] {JUMP, 0, 40});
        CHECK.rewritten("two jumps to the end", y, new int[] {ZERO, 0, 1});
    }

    /** By the words of DROP: the t of the jump at 0 is 1, which has gone, and not the first that is still there. */
    private static void jumpsRoundOneAnother() {
        BranchConstants two = Check.program(new int[] {JUMP, 0, 1}, new int[] {JUMP, 0, 0});
        CHECK.rewritten("two jumps round", two, new int[] {JUMP, 0, 0});
        BranchConstants three = Check.program(new int[] {JUMP, 0, 1}, new int[] {JUMP, 0, 2}, new int[] {JUMP, 0, 0});
        CHECK.rewritten("three jumps round", three, new int[] {JUMP, 0, 1}, new int[] {JUMP, 0, 0});
    }

    private static void leavesNothing() {
        BranchConstants x = Check.program(new int[] {JUMP, 0, 1});
        CHECK.rewritten("nothing left", x);
        BranchConstants y = Check.program(new int[] {JUMP, 0, 2}, new int[] {HALT}, new int[] {JUMP, 0, 3},
                new int[] {JUMP, 0, 40});
        CHECK.rewritten("nothing left of four", y);
    }

    /** The target 2 is a jump that goes round and is dropped: it becomes the first one behind it that is left. */
    private static void numbersAnew() {
        BranchConstants x = Check.program(new int[] {ZERO, 0, 2}, new int[] {HALT}, new int[] {JUMP, 0, 3},
                new int[] {JUMP, 0, 2});
        CHECK.rewritten("a target that was dropped", x, new int[] {ZERO, 0, 2}, new int[] {HALT},
                new int[] {JUMP, 0, 2});
        BranchConstants y = Check.program(new int[] {JUMP, 0, 2}, new int[] {HALT}, new int[] {SUB, 0, 0, 1},
                new int[] {ZERO, 0, 7}, new int[] {JUMP, 0, 6}, new int[] {HALT}, new int[] {JUMP, 0, 2},
                new int[] {COPY, 1, 2});
        CHECK.rewritten("back and on", y, new int[] {SUB, 0, 0, 1}, new int[] {ZERO, 0, 3}, new int[] {JUMP, 0, 0},
                new int[] {COPY, 1, 2});
    }

    private static void ofFortyInstructions() {
        BranchConstants x = new BranchConstants();
        for (int i = 0; i < 39; i++) {
            x.add(ZERO, 0, 39, 0);
        }
        x.add(ZERO, 1, 40, 0);
        int[][] rows = new int[40][];
        for (int i = 0; i < 39; i++) {
            rows[i] = new int[] {ZERO, 0, 39};
        }
        rows[39] = new int[] {ZERO, 1, 40};
        CHECK.rewritten("forty", x, rows);
        BranchConstants jumps = new BranchConstants();
        jumps.add(JUMP, 0, 39, 0);
        for (int i = 1; i < 39; i++) {
            jumps.add(JUMP, 0, i == 1 ? 40 : i - 1, 0);
        }
        jumps.add(JUMP, 0, 38, 0);
        CHECK.rewritten("a chain of forty jumps", jumps);
    }

    private static void leavesTheProgram() {
        BranchConstants x = Check.program(new int[] {SET, 0, 0}, new int[] {ZERO, 0, 3}, new int[] {HALT},
                new int[] {JUMP, 8, 40}, new int[] {COPY, 0, 1});
        x.start(0, 1, 2, 3, 4);
        x.run(0, 1);
        CHECK.rewritten("short", x, new int[] {SET, 0, 0});
        CHECK.code("the program is as it was", x, 0, new int[] {SET, 0, 0}, new int[] {ZERO, 0, 3}, new int[] {HALT},
                new int[] {JUMP, 0, 40}, new int[] {COPY, 0, 1});
        CHECK.due("the run of the program goes on", 1, x.place(0));
        CHECK.due("the run of the program goes on", 2, x.run(0, 10));
        CHECK.due("the analysis is of the program", 3, x.reachedAll());
    }

    private static void again() {
        BranchConstants x = Check.program(new int[] {SET, 0, 0}, new int[] {COPY, 1, 0});
        CHECK.rewritten("once", x, new int[] {SET, 0, 0}, new int[] {SET, 1, 0});
        CHECK.rewritten("twice", x, new int[] {SET, 0, 0}, new int[] {SET, 1, 0});
        x.change(0, SET, 0, 4, 0);
        CHECK.state("changed: code(1, 0, 0)", () -> x.code(1, 0, 0));
        CHECK.rewritten("changed", x, new int[] {SET, 0, 4}, new int[] {SET, 1, 4});
        x.add(MUL, 2, 1, 0);
        CHECK.rewritten("one more", x, new int[] {SET, 0, 4}, new int[] {SET, 1, 4}, new int[] {SET, 2, 16});
    }

    private static void refusesTheEmptyProgram() {
        BranchConstants x = new BranchConstants();
        CHECK.state("rewrite() of an empty program", x::rewrite);
        CHECK.state("code(1, 0, 0) after that", () -> x.code(1, 0, 0));
        CHECK.state("start(1) after that", () -> x.start(1, 0, 0, 0, 0));
        x.start(0, 5, 0, 0, 0);
        CHECK.state("rewrite() of an empty program", x::rewrite);
        CHECK.due("the run stays", 5, x.value(0, 0));
    }

    private static void codeRefuses() {
        BranchConstants x = Check.program(new int[] {JUMP, 0, 40}, new int[] {ADD, 1, 2, 3});
        int[] wrong = {-1, 4, 40, MIN, MAX};
        for (int n : wrong) {
            CHECK.index("code(0, " + n + ", 0)", () -> x.code(0, n, 0));
            CHECK.index("code(0, 0, " + n + ")", () -> x.code(0, 0, n));
            CHECK.index("code(" + n + ", 0, 0)", () -> x.code(n, 0, 0));
            CHECK.state("code(1, " + n + ", 0): IllegalState wins", () -> x.code(1, n, 0));
            CHECK.state("code(1, 0, " + n + "): IllegalState wins", () -> x.code(1, 0, n));
        }
        CHECK.index("code(2, 0, 0)", () -> x.code(2, 0, 0));
        CHECK.index("code(0, 2, 0)", () -> x.code(0, 2, 0));
        CHECK.due("rewrite()", 0, x.rewrite());
        CHECK.index("rewritten: code(1, 0, 0)", () -> x.code(1, 0, 0));
        CHECK.index("rewritten: code(2, 0, 0)", () -> x.code(2, 0, 0));
        x.change(0, SUB, 5, 4, 3);
        CHECK.due("rewrite()", 2, x.rewrite());
        for (int n : wrong) {
            CHECK.index("rewritten: code(1, " + n + ", 0)", () -> x.code(1, n, 0));
            CHECK.index("rewritten: code(1, 0, " + n + ")", () -> x.code(1, 0, n));
        }
        CHECK.index("rewritten: code(1, 2, 0)", () -> x.code(1, 2, 0));
    }
}
