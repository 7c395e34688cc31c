/** The terms that hold for all promises: PROGRAM, the two RUNS, when a rewritten program is there, and 512 calls. */
final class TermsTest extends Rows {
    public static void main(String[] args) {
        CHECK.about("PROGRAM: at most 40 instructions", TermsTest::atMost40);
        CHECK.about("PROGRAM: numbered from 0", TermsTest::numberedFrom0);
        CHECK.about("PROGRAM: variables 0 .. 5", TermsTest::variables0To5);
        CHECK.about("PROGRAM: all of 32 bits (wrapping), when run", TermsTest::wrapsWhenRun);
        CHECK.about("PROGRAM: all of 32 bits (wrapping), in THE ANALYSIS", TermsTest::wrapsInTheAnalysis);
        CHECK.about("PROGRAM: all of 32 bits (wrapping), in FOLD", TermsTest::wrapsInFold);
        CHECK.about("PROGRAM: all of 32 bits (wrapping), to 0, which is ZERO", TermsTest::wrapsToZero);
        CHECK.about("PROGRAM: SET v k; COPY v w", TermsTest::setAndCopy);
        CHECK.about("PROGRAM: v becomes w + x, w - x, w * x", TermsTest::arithmetic);
        CHECK.about("PROGRAM: v becomes w + x, w - x, w * x, v being one of them", TermsTest::arithmeticOnItself);
        CHECK.about("PROGRAM: ZERO v t (if v is 0, on at instruction t)", TermsTest::zeroGoesOn);
        CHECK.about("PROGRAM: JUMP t", TermsTest::jumpGoesOn);
        CHECK.about("PROGRAM: t is 0 .. 40", TermsTest::tIs0To40);
        CHECK.about("PROGRAM: a t that is not below the number of instructions is the END", TermsTest::tIsTheEnd);
        CHECK.about("PROGRAM: such a t is the END only until there are more", TermsTest::tIsTheEndNoLonger);
        CHECK.about("PROGRAM: the END of 40 instructions", TermsTest::theEndOf40);
        CHECK.about("PROGRAM: the END is what comes behind the last one", TermsTest::behindTheLastOne);
        CHECK.about("PROGRAM: the run ends at a HALT", TermsTest::endsAtAHalt);
        CHECK.about("RUNS: each with its own variables, place and number of steps", TermsTest::runsAreApart);
        CHECK.about("RUNS: of the program and of the REWRITTEN one", TermsTest::runsOfTwoPrograms);
        CHECK.about("RUNS: an instruction done is a step, HALT too", TermsTest::eachIsAStep);
        CHECK.about("A rewritten program is there when REWRITING was done", TermsTest::rewrittenIsThere);
        CHECK.about("A rewritten program is there, also one of no instructions", TermsTest::rewrittenOfNoneIsThere);
        CHECK.about("A rewritten program is there, but not once it was changed", TermsTest::rewrittenIsThereNoLonger);
        CHECK.about("At most 512 calls: the last of them", TermsTest::theLastOf512Calls);
        CHECK.end();
    }

    private static void atMost40() {
        BranchConstants x = new BranchConstants();
        for (int i = 1; i <= 40; i++) {
            CHECK.due("add as number " + i, i, x.add(SET, i % 6, i, 0));
        }
        CHECK.state("add as number 41", () -> x.add(SET, 0, 41, 0));
        CHECK.due("the fortieth", 40, x.code(0, 39, 2));
        CHECK.index("the forty-first", () -> x.code(0, 40, 0));
        CHECK.due("reachedAll()", 40, x.reachedAll());
        CHECK.due("rewrite()", 40, x.rewrite());
        for (int side = 0; side < 2; side++) {
            x.start(side, 0, 0, 0, 0);
            CHECK.due("run(" + side + ", 10000)", 40, x.run(side, 10000));
            CHECK.values("all forty done", x, side, 36, 37, 38, 39, 40, 35);
        }
    }

    private static void numberedFrom0() {
        BranchConstants x = program(zero(0, 0), jump(0));
        CHECK.due("the first", ZERO, x.code(0, 0, 0));
        CHECK.due("the last", JUMP, x.code(0, 1, 0));
        CHECK.index("before the first", () -> x.code(0, -1, 0));
        CHECK.index("behind the last", () -> x.code(0, 2, 0));
        x.start(0, 1, 0, 0, 0);
        CHECK.stands("at the beginning", x, 0, 0, 0);
        x.run(0, 2);
        CHECK.stands("after the jump to the first", x, 0, 0, 2);
    }

    private static void variables0To5() {
        BranchConstants x = new BranchConstants();
        for (int v = 0; v <= 5; v++) {
            x.add(SET, v, 10 + v, 0);
        }
        CHECK.argument("SET of -1", () -> x.add(SET, -1, 0, 0));
        CHECK.argument("SET of 6", () -> x.add(SET, 6, 0, 0));
        x.add(HALT, 0, 0, 0);
        x.start(0, 0, 0, 0, 0);
        x.run(0, 6);
        CHECK.values("each has its own value", x, 0, 10, 11, 12, 13, 14, 15);
        for (int v = 0; v <= 5; v++) {
            CHECK.due("constant(6, " + v + ")", 10 + v, x.constant(6, v));
        }
        CHECK.index("value of -1", () -> x.value(0, -1));
        CHECK.index("value of 6", () -> x.value(0, 6));
    }

    /** Rows of kind, w, x and what v becomes. */
    private static final int[][] WRAPPING = {
        {ADD, MAX, 1, MIN}, {ADD, MIN, -1, MAX}, {ADD, MAX, MAX, -2}, {ADD, MIN, MIN, 0}, {ADD, MIN, MAX, -1},
        {SUB, MIN, 1, MAX}, {SUB, MAX, -1, MIN}, {SUB, 0, MIN, MIN}, {SUB, MAX, MIN, -1}, {SUB, MIN, MAX, 1},
        {SUB, MIN, MIN, 0},
        {MUL, MIN, -1, MIN}, {MUL, MAX, MAX, 1}, {MUL, MAX, 2, -2}, {MUL, MIN, 2, 0}, {MUL, 65536, 65536, 0},
        {MUL, 46341, 46341, -2147479015}, {MUL, 46340, 46340, 2147395600}, {MUL, MAX, MIN, MIN},
    };

    private static String text(int[] row) {
        return "kind " + row[0] + " of " + row[1] + " and " + row[2];
    }

    private static void wrapsWhenRun() {
        for (int[] row : WRAPPING) {
            BranchConstants x = program(new int[] {row[0], 5, 0, 1});
            x.start(0, row[1], row[2], 0, 0);
            x.run(0, 1);
            CHECK.values(text(row), x, 0, row[1], row[2], 0, 0, 0, row[3]);
        }
    }

    private static void wrapsInTheAnalysis() {
        for (int[] row : WRAPPING) {
            BranchConstants x = program(set(0, row[1]), set(1, row[2]), new int[] {row[0], 5, 0, 1}, halt());
            CHECK.due(text(row) + ": known(3, 5)", CONSTANT, x.known(3, 5));
            CHECK.due(text(row) + ": constant(3, 5)", row[3], x.constant(3, 5));
        }
    }

    private static void wrapsInFold() {
        for (int[] row : WRAPPING) {
            BranchConstants x = program(set(0, row[1]), set(1, row[2]), new int[] {row[0], 5, 0, 1});
            CHECK.rewritten(text(row), x, set(0, row[1]), set(1, row[2]), set(5, row[3]));
        }
    }

    private static void wrapsToZero() {
        int[][] wrapping = {add(2, 0, 0), mul(2, 1, 1), sub(2, 0, 0)};
        for (int[] row : wrapping) {
            BranchConstants x = program(set(0, MIN), set(1, 65536), row, zero(2, 5), halt(), set(3, 1));
            CHECK.due("reached(4)", false, x.reached(4));
            CHECK.due("reached(5)", true, x.reached(5));
            x.start(0, 0, 0, 0, 0);
            x.run(0, 4);
            CHECK.due("place(0)", 5, x.place(0));
        }
    }

    private static void setAndCopy() {
        BranchConstants x = program(set(5, MIN), copy(0, 5), copy(4, 3), set(3, MAX), copy(2, 2));
        x.start(0, 1, 2, 3, 4);
        x.run(0, 5);
        CHECK.values("done", x, 0, MIN, 2, 3, MAX, 4, MIN);
    }

    private static void arithmetic() {
        BranchConstants x = program(add(2, 0, 1), sub(3, 0, 1), sub(4, 1, 0), mul(5, 0, 1));
        x.start(0, 7, -3, 0, 0);
        x.run(0, 4);
        CHECK.values("done", x, 0, 7, -3, 4, 10, -10, -21);
    }

    private static void arithmeticOnItself() {
        BranchConstants x = program(add(0, 0, 0), sub(1, 2, 1), sub(2, 2, 1), mul(3, 3, 3));
        x.start(0, 7, 3, 10, -5);
        x.run(0, 4);
        CHECK.values("done", x, 0, 14, 7, 3, 25, 0, 0);
    }

    private static void zeroGoesOn() {
        for (int v = 0; v < 4; v++) {
            BranchConstants x = program(zero(v, 2), halt(), set(5, 1));
            int[] others = {1, -1, MIN, MAX, 65536, 256};
            for (int n : others) {
                x.start(0, v == 0 ? n : 0, v == 1 ? n : 0, v == 2 ? n : 0, v == 3 ? n : 0);
                x.run(0, 1);
                CHECK.due("variable " + v + " is " + n, 1, x.place(0));
            }
            x.start(0, v == 0 ? 0 : 1, v == 1 ? 0 : 1, v == 2 ? 0 : 1, v == 3 ? 0 : 1);
            x.run(0, 1);
            CHECK.due("variable " + v + " is 0", 2, x.place(0));
        }
    }

    private static void jumpGoesOn() {
        BranchConstants x = program(jump(3), halt(), jump(0), jump(2));
        x.start(0, 1, 1, 1, 1);
        int[] places = {3, 2, 0, 3};
        for (int place : places) {
            x.run(0, 1);
            CHECK.due("a jump on", place, x.place(0));
        }
    }

    private static void tIs0To40() {
        BranchConstants x = new BranchConstants();
        int[] kinds = {ZERO, JUMP};
        for (int kind : kinds) {
            CHECK.allowed("kind " + kind + " to 0", () -> x.add(kind, 0, 0, 0));
            CHECK.allowed("kind " + kind + " to 40", () -> x.add(kind, 0, 40, 0));
            CHECK.argument("kind " + kind + " to -1", () -> x.add(kind, 0, -1, 0));
            CHECK.argument("kind " + kind + " to 41", () -> x.add(kind, 0, 41, 0));
        }
        CHECK.code("what was allowed", x, 0, zero(0, 0), zero(0, 40), jump(0), jump(40));
    }

    private static void tIsTheEnd() {
        int[] kinds = {ZERO, JUMP};
        int[] ends = {3, 4, 39, 40};
        for (int kind : kinds) {
            for (int t : ends) {
                BranchConstants x = program(new int[] {kind, 0, t, 0}, set(1, 1), set(1, 2));
                x.start(0, 0, 0, 0, 0);
                CHECK.due("kind " + kind + " to " + t + ": run(0, 9)", 1, x.run(0, 9));
                CHECK.stands("kind " + kind + " to " + t, x, 0, NONE, 1);
            }
            BranchConstants x = program(new int[] {kind, 0, 2, 0}, set(1, 1), set(1, 2));
            x.start(0, 0, 0, 0, 0);
            x.run(0, 1);
            CHECK.stands("kind " + kind + " to the last one", x, 0, 2, 1);
        }
    }

    private static void tIsTheEndNoLonger() {
        BranchConstants x = program(zero(0, 2), halt());
        CHECK.due("the END: reachedAll()", 2, x.reachedAll());
        CHECK.rewritten("the END", x, zero(0, 2), halt());
        x.add(SET, 1, 1, 0);
        CHECK.due("an instruction: reached(2)", true, x.reached(2));
        CHECK.due("an instruction: constant 0 there", CONSTANT, x.known(2, 0));
        x.start(0, 0, 0, 0, 0);
        CHECK.due("an instruction: run(0, 9)", 2, x.run(0, 9));
        x.clear();
        x.add(JUMP, 0, 1, 0);
        x.start(0, 0, 0, 0, 0);
        CHECK.due("the END again after clear: run(0, 9)", 1, x.run(0, 9));
        CHECK.stands("the END again after clear", x, 0, NONE, 1);
    }

    private static void theEndOf40() {
        BranchConstants x = programOf(39, zero(0, 39));
        x.add(ZERO, 1, 40, 0);
        x.start(0, 0, 0, 0, 0);
        x.run(0, 1);
        CHECK.stands("39 is the last one", x, 0, 39, 1);
        x.run(0, 1);
        CHECK.stands("40 is the END", x, 0, NONE, 2);
        CHECK.due("reached(39)", true, x.reached(39));
        CHECK.due("reachedAll()", 40, x.reachedAll());
        CHECK.due("rewrite()", 40, x.rewrite());
        CHECK.due("39 stays", 39, x.code(1, 0, 2));
        CHECK.due("40 stays", 40, x.code(1, 39, 2));
    }

    private static void behindTheLastOne() {
        int[][] lasts = {set(0, 1), copy(0, 1), add(0, 0, 0), sub(0, 0, 1), mul(0, 0, 0), zero(0, 0)};
        for (int[] last : lasts) {
            BranchConstants x = program(copy(1, 0), last);
            x.start(0, 3, 0, 0, 0);
            CHECK.due("kind " + last[0] + ": run(0, 10000)", 2, x.run(0, 10000));
            CHECK.stands("kind " + last[0], x, 0, NONE, 2);
        }
        BranchConstants full = programOf(40, add(0, 0, 1));
        full.start(0, 0, 2, 0, 0);
        CHECK.due("forty: run(0, 10000)", 40, full.run(0, 10000));
        CHECK.stands("forty", full, 0, NONE, 40);
        CHECK.due("forty: value(0, 0)", 80, full.value(0, 0));
    }

    private static void endsAtAHalt() {
        BranchConstants x = program(set(0, 1), halt(), set(0, 2));
        x.start(0, 0, 0, 0, 0);
        CHECK.due("run(0, 10000)", 2, x.run(0, 10000));
        CHECK.stands("ended", x, 0, NONE, 2);
        CHECK.due("run(0, 10000) again", 0, x.run(0, 10000));
        CHECK.stands("ended still", x, 0, NONE, 2);
        CHECK.due("value(0, 0)", 1, x.value(0, 0));
    }

    private static void runsAreApart() {
        BranchConstants x = program(add(4, 0, 1), add(5, 4, 4), halt());
        x.rewrite();
        x.start(0, 1, 2, 3, 4);
        x.start(1, 5, 6, 7, 8);
        x.run(0, 1);
        CHECK.stands("after a step of the one", x, 0, 1, 1);
        CHECK.stands("after a step of the one", x, 1, 0, 0);
        CHECK.values("after a step of the one", x, 1, 5, 6, 7, 8, 0, 0);
        x.run(1, 3);
        CHECK.stands("after three of the other", x, 0, 1, 1);
        CHECK.stands("after three of the other", x, 1, NONE, 3);
        CHECK.values("after three of the other", x, 0, 1, 2, 3, 4, 3, 0);
        CHECK.values("after three of the other", x, 1, 5, 6, 7, 8, 11, 22);
        x.start(1, 0, 0, 0, 0);
        CHECK.stands("after starting the other again", x, 0, 1, 1);
        CHECK.values("after starting the other again", x, 0, 1, 2, 3, 4, 3, 0);
        x.start(0, 9, 9, 9, 9);
        CHECK.values("after starting the one again", x, 1, 0, 0, 0, 0, 0, 0);
        CHECK.stands("after starting the one again", x, 1, 0, 0);
    }

    private static void runsOfTwoPrograms() {
        BranchConstants x = program(set(4, 2), zero(4, 0), jump(3), mul(5, 0, 4));
        CHECK.rewritten("rewritten", x, set(4, 2), mul(5, 0, 4));
        for (int side = 0; side < 2; side++) {
            x.start(side, 3, 0, 0, 0);
            CHECK.due("run(" + side + ", 10000)", side == 0 ? 4 : 2, x.run(side, 10000));
            CHECK.values("ended", x, side, 3, 0, 0, 0, 2, 6);
        }
    }

    private static void eachIsAStep() {
        BranchConstants x = program(set(5, -7), copy(4, 0), add(1, 0, 5), sub(2, 0, 5), mul(3, 0, 5), zero(5, 0),
                zero(0, 8), halt(), jump(7));
        x.start(0, 0, 0, 0, 0);
        int[] places = {1, 2, 3, 4, 5, 6, 8, 7, NONE};
        for (int n = 0; n < places.length; n++) {
            CHECK.due("run(0, 1)", 1, x.run(0, 1));
            CHECK.stands("after " + (n + 1), x, 0, places[n], n + 1);
        }
        CHECK.due("ended: run(0, 1)", 0, x.run(0, 1));
        CHECK.stands("ended", x, 0, NONE, places.length);
    }

    private static void isThere(String name, BranchConstants x) {
        CHECK.allowed(name + ": code(1, 0, 0)", () -> x.code(1, 0, 0));
        CHECK.allowed(name + ": start(1, ..)", () -> x.start(1, 0, 0, 0, 0));
    }

    private static void isNotThere(String name, BranchConstants x) {
        CHECK.state(name + ": code(1, 0, 0)", () -> x.code(1, 0, 0));
        CHECK.state(name + ": start(1, ..)", () -> x.start(1, 0, 0, 0, 0));
    }

    private static void rewrittenIsThere() {
        BranchConstants x = program(add(0, 0, 1), halt());
        isNotThere("before rewriting", x);
        x.rewrite();
        isThere("rewritten", x);
        x.rewrite();
        isThere("rewritten again", x);
        x.start(0, 0, 0, 0, 0);
        x.run(0, 5);
        x.run(1, 5);
        x.reachedAll();
        x.constant(1, 0);
        isThere("after calls that only look and run", x);
    }

    private static void rewrittenOfNoneIsThere() {
        BranchConstants x = program(jump(40));
        CHECK.due("rewrite()", 0, x.rewrite());
        CHECK.index("code(1, 0, 0)", () -> x.code(1, 0, 0));
        CHECK.allowed("start(1, ..)", () -> x.start(1, 0, 0, 0, 0));
    }

    private static void rewrittenIsThereNoLonger() {
        BranchConstants x = program(add(0, 0, 1), halt());
        x.rewrite();
        x.add(HALT, 0, 0, 0);
        isNotThere("after add", x);
        x.rewrite();
        isThere("rewritten after add", x);
        x.change(0, SUB, 0, 0, 1);
        isNotThere("after change", x);
        x.rewrite();
        CHECK.due("rewritten after change", SUB, x.code(1, 0, 0));
        x.change(0, SUB, 0, 0, 1);
        isNotThere("after change to the same", x);
        x.rewrite();
        x.clear();
        isNotThere("after clear", x);
        x.add(HALT, 0, 0, 0);
        isNotThere("after clear and add", x);
        x.rewrite();
        isThere("rewritten after clear and add", x);
    }

    /** 2 adds, a start, 506 runs and three that look: these are 512. */
    private static void theLastOf512Calls() {
        BranchConstants x = program(add(0, 0, 1), jump(0));
        x.start(0, 0, 1, 0, 0);
        for (int n = 1; n <= 506; n++) {
            CHECK.due("call " + (3 + n) + ": run(0, 10000)", 10000, x.run(0, 10000));
        }
        CHECK.due("call 510: value(0, 0)", 2530000, x.value(0, 0));
        CHECK.due("call 511: place(0)", 0, x.place(0));
        CHECK.due("call 512: steps(0)", 5060000, x.steps(0));
    }
}
