/** Promises 11 to 15: start, run, place, value, steps. */
final class RunTest {
    private static final int SET = BranchConstants.SET;
    private static final int COPY = BranchConstants.COPY;
    private static final int ADD = BranchConstants.ADD;
    private static final int SUB = BranchConstants.SUB;
    private static final int MUL = BranchConstants.MUL;
    private static final int ZERO = BranchConstants.ZERO;
    private static final int JUMP = BranchConstants.JUMP;
    private static final int HALT = BranchConstants.HALT;
    private static final int NONE = BranchConstants.NONE;
    private static final int MIN = Integer.MIN_VALUE;
    private static final int MAX = Integer.MAX_VALUE;
    private static final Check CHECK = new Check();

    public static void main(String[] args) {
        startGivesTheVariables();
        startAgain();
        anEmptyProgramsRun();
        eachKindIsAStep();
        arithmeticWraps();
        zeroGoesItsWay();
        theEnds();
        atMostSoManySteps();
        goesOnWhereItWas();
        withoutEnd();
        twoRunsApart();
        rewritingEndsTheRewrittenRun();
        wrongSides();
        wrongNumbersOfSteps();
        wrongVariables();
        notStarted();
        CHECK.end();
    }

    private static void values(String name, BranchConstants x, int side, int... want) {
        for (int v = 0; v < 6; v++) {
            CHECK.due(name + ": value(" + side + ", " + v + ")", want[v], x.value(side, v));
        }
    }

    private static void stands(String name, BranchConstants x, int side, int place, int steps) {
        CHECK.due(name + ": place(" + side + ")", place, x.place(side));
        CHECK.due(name + ": steps(" + side + ")", steps, x.steps(side));
    }

    private static void startGivesTheVariables() {
        BranchConstants x = Check.program(new int[] {ADD, 0, 1, 2}, new int[] {HALT});
        x.start(0, MIN, -1, MAX, 4);
        values("start", x, 0, MIN, -1, MAX, 4, 0, 0);
        stands("start", x, 0, 0, 0);
    }

    private static void startAgain() {
        BranchConstants x = Check.program(new int[] {SET, 4, 9}, new int[] {SET, 5, 9}, new int[] {HALT});
        x.start(0, 1, 2, 3, 4);
        x.run(0, 2);
        values("before starting again", x, 0, 1, 2, 3, 4, 9, 9);
        x.start(0, 5, 6, 7, 8);
        values("starting again", x, 0, 5, 6, 7, 8, 0, 0);
        stands("starting again", x, 0, 0, 0);
        CHECK.due("run after starting again", 3, x.run(0, 9));
        x.start(0, 0, 0, 0, 0);
        stands("starting again when ended", x, 0, 0, 0);
    }

    private static void anEmptyProgramsRun() {
        BranchConstants x = new BranchConstants();
        x.start(0, 1, 2, 3, 4);
        values("empty", x, 0, 1, 2, 3, 4, 0, 0);
        stands("empty", x, 0, NONE, 0);
        CHECK.due("empty: run(0, 10000)", 0, x.run(0, 10000));
        x.add(JUMP, 0, 40, 0);
        CHECK.state("no longer empty: place(0)", () -> x.place(0));
        CHECK.due("rewritten to nothing", 0, x.rewrite());
        x.start(1, 1, 2, 3, 4);
        values("rewritten to nothing", x, 1, 1, 2, 3, 4, 0, 0);
        stands("rewritten to nothing", x, 1, NONE, 0);
        CHECK.due("rewritten to nothing: run(1, 1)", 0, x.run(1, 1));
    }

    private static void eachKindIsAStep() {
        BranchConstants x = Check.program(new int[] {SET, 5, -7}, new int[] {COPY, 4, 0}, new int[] {ADD, 1, 0, 5},
                new int[] {SUB, 2, 0, 5}, new int[] {MUL, 3, 0, 5}, new int[] {ZERO, 5, 0}, new int[] {JUMP, 0, 8},
                new int[] {SET, 0, 1}, new int[] {HALT}, new int[] {SET, 0, 2});
        x.start(0, 3, 0, 0, 0);
        int[] places = {1, 2, 3, 4, 5, 6, 8, NONE};
        for (int n = 0; n < places.length; n++) {
            CHECK.due("a step: run(0, 1)", 1, x.run(0, 1));
            stands("a step", x, 0, places[n], n + 1);
        }
        values("after each kind", x, 0, 3, -4, 10, -21, 3, -7);
        CHECK.due("ended: run(0, 1)", 0, x.run(0, 1));
        stands("ended", x, 0, NONE, 8);
        values("ended", x, 0, 3, -4, 10, -21, 3, -7);
    }

    private static void arithmeticWraps() {
        BranchConstants x = Check.program(new int[] {ADD, 4, 0, 2}, new int[] {SUB, 5, 1, 2}, new int[] {MUL, 3, 0, 0},
                new int[] {MUL, 0, 1, 1});
        x.start(0, MAX, MIN, 1, 0);
        CHECK.due("wraps: run(0, 4)", 4, x.run(0, 4));
        values("wraps", x, 0, 0, MIN, 1, 1, MIN, MAX);
    }

    private static void zeroGoesItsWay() {
        BranchConstants x = Check.program(new int[] {ZERO, 1, 2}, new int[] {HALT}, new int[] {SET, 0, 1});
        int[] others = {1, -1, MIN, MAX, 256};
        for (int b : others) {
            x.start(0, 0, b, 0, 0);
            x.run(0, 1);
            CHECK.due("zero of " + b, 1, x.place(0));
        }
        x.start(0, 5, 0, 5, 5);
        x.run(0, 1);
        CHECK.due("zero of 0", 2, x.place(0));
    }

    private static void theEnds() {
        int[][] lasts = {{HALT}, {SET, 0, 1}, {JUMP, 0, 2}, {JUMP, 0, 40}, {ZERO, 5, 2}, {ZERO, 5, 40}, {ZERO, 0, 0}};
        for (int[] last : lasts) {
            BranchConstants x = Check.program(new int[] {COPY, 1, 0}, last);
            x.start(0, 3, 0, 0, 0);
            String name = "ends at kind " + last[0];
            CHECK.due(name + ": run(0, 100)", 2, x.run(0, 100));
            stands(name, x, 0, NONE, 2);
            CHECK.due(name + ": run(0, 100) again", 0, x.run(0, 100));
            stands(name + " again", x, 0, NONE, 2);
        }
    }

    private static void atMostSoManySteps() {
        BranchConstants x = Check.program(new int[] {SET, 0, 1}, new int[] {SET, 1, 1}, new int[] {HALT});
        for (int n = 0; n <= 5; n++) {
            x.start(0, 0, 0, 0, 0);
            CHECK.due("run(0, " + n + ")", Math.min(n, 3), x.run(0, n));
            stands("run of " + n, x, 0, n < 3 ? n : NONE, Math.min(n, 3));
        }
    }

    private static void goesOnWhereItWas() {
        BranchConstants x = Check.program(new int[] {SET, 1, 1}, new int[] {ZERO, 0, 5}, new int[] {SUB, 0, 0, 1},
                new int[] {ADD, 2, 2, 0}, new int[] {JUMP, 0, 1}, new int[] {HALT});
        x.start(0, 10, 0, 0, 0);
        CHECK.due("loop: run(0, 0)", 0, x.run(0, 0));
        CHECK.due("loop: run(0, 7)", 7, x.run(0, 7));
        stands("loop", x, 0, 3, 7);
        CHECK.due("loop: run(0, 10000)", 36, x.run(0, 10000));
        stands("loop", x, 0, NONE, 43);
        values("loop", x, 0, 0, 1, 45, 0, 0, 0);
    }

    private static void withoutEnd() {
        BranchConstants x = Check.program(new int[] {ADD, 0, 0, 1}, new int[] {JUMP, 0, 0});
        x.start(0, 0, 1, 0, 0);
        for (int n = 1; n <= 300; n++) {
            CHECK.due("without end: run(0, 10000)", 10000, x.run(0, 10000));
        }
        stands("without end", x, 0, 0, 3000000);
        CHECK.due("without end: value", 1500000, x.value(0, 0));
    }

    private static void twoRunsApart() {
        BranchConstants x = Check.program(new int[] {SET, 4, 2}, new int[] {ZERO, 4, 0}, new int[] {MUL, 5, 0, 4});
        CHECK.due("apart: rewrite()", 2, x.rewrite());
        x.start(0, 3, 0, 0, 0);
        CHECK.state("apart: side 1 is not started", () -> x.place(1));
        x.start(1, 5, 0, 0, 0);
        CHECK.due("apart: run(0, 2)", 2, x.run(0, 2));
        stands("apart", x, 0, 2, 2);
        stands("apart", x, 1, 0, 0);
        CHECK.due("apart: run(1, 100)", 2, x.run(1, 100));
        stands("apart", x, 0, 2, 2);
        stands("apart", x, 1, NONE, 2);
        values("apart", x, 0, 3, 0, 0, 0, 2, 0);
        values("apart", x, 1, 5, 0, 0, 0, 2, 10);
        CHECK.due("apart: run(0, 100)", 1, x.run(0, 100));
        values("apart", x, 0, 3, 0, 0, 0, 2, 6);
        x.start(1, 7, 0, 0, 0);
        stands("apart, started again", x, 0, NONE, 3);
    }

    private static void rewritingEndsTheRewrittenRun() {
        BranchConstants x = Check.program(new int[] {SET, 0, 2}, new int[] {HALT});
        x.start(0, 9, 0, 0, 0);
        x.rewrite();
        x.start(1, 8, 0, 0, 0);
        CHECK.due("side 1 started", 8, x.value(1, 0));
        x.rewrite();
        CHECK.state("rewritten again: run(1, 1)", () -> x.run(1, 1));
        CHECK.state("rewritten again: place(1)", () -> x.place(1));
        CHECK.state("rewritten again: value(1, 0)", () -> x.value(1, 0));
        CHECK.state("rewritten again: steps(1)", () -> x.steps(1));
        CHECK.due("rewritten again: side 0 goes on", 9, x.value(0, 0));
        x.start(1, 7, 0, 0, 0);
        CHECK.due("started again", 7, x.value(1, 0));
        x.change(0, SET, 0, 3, 0);
        x.rewrite();
        CHECK.state("changed and rewritten: steps(1)", () -> x.steps(1));
        CHECK.state("changed and rewritten: steps(0)", () -> x.steps(0));
    }

    private static void wrongSides() {
        BranchConstants x = Check.program(new int[] {HALT});
        int[] sides = {-1, 2, MIN, MAX};
        for (int round = 0; round < 2; round++) {
            for (int side : sides) {
                CHECK.index("start of side " + side, () -> x.start(side, 0, 0, 0, 0));
                CHECK.index("run of side " + side, () -> x.run(side, 1));
                CHECK.index("run of side " + side + ": IndexOutOfBounds wins", () -> x.run(side, -1));
                CHECK.index("place of side " + side, () -> x.place(side));
                CHECK.index("value of side " + side, () -> x.value(side, 0));
                CHECK.index("value of side " + side + " and no variable", () -> x.value(side, 6));
                CHECK.index("steps of side " + side, () -> x.steps(side));
            }
            x.rewrite();
            x.start(0, 0, 0, 0, 0);
            x.start(1, 0, 0, 0, 0);
        }
    }

    private static void wrongNumbersOfSteps() {
        BranchConstants x = Check.program(new int[] {JUMP, 0, 0});
        int[] numbers = {-1, 10001, MIN, MAX};
        for (int n : numbers) {
            CHECK.argument("run(0, " + n + ") not started: IllegalArgument wins", () -> x.run(0, n));
            CHECK.argument("run(1, " + n + ") not rewritten: IllegalArgument wins", () -> x.run(1, n));
        }
        x.start(0, 0, 0, 0, 0);
        for (int n : numbers) {
            CHECK.argument("run(0, " + n + ")", () -> x.run(0, n));
        }
        stands("after wrong numbers of steps", x, 0, 0, 0);
        CHECK.due("run(0, 0)", 0, x.run(0, 0));
        CHECK.due("run(0, 10000)", 10000, x.run(0, 10000));
    }

    private static void wrongVariables() {
        BranchConstants x = Check.program(new int[] {HALT});
        int[] variables = {-1, 6, MIN, MAX};
        for (int v : variables) {
            CHECK.index("value(0, " + v + ") not started: IndexOutOfBounds wins", () -> x.value(0, v));
            CHECK.index("value(1, " + v + ") not rewritten: IndexOutOfBounds wins", () -> x.value(1, v));
        }
        x.start(0, 0, 0, 0, 0);
        for (int v : variables) {
            CHECK.index("value(0, " + v + ")", () -> x.value(0, v));
        }
    }

    private static void notStarted() {
        BranchConstants x = Check.program(new int[] {HALT});
        for (int round = 0; round < 2; round++) {
            for (int side = 0; side < 2; side++) {
                int s = side;
                CHECK.state("not started: run", () -> x.run(s, 0));
                CHECK.state("not started: run", () -> x.run(s, 10000));
                CHECK.state("not started: place", () -> x.place(s));
                CHECK.state("not started: value", () -> x.value(s, 5));
                CHECK.state("not started: steps", () -> x.steps(s));
            }
            if (round == 0) {
                CHECK.state("start(1) without a rewritten program", () -> x.start(1, 0, 0, 0, 0));
                x.rewrite();
            }
        }
    }
}
