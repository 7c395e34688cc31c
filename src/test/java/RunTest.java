/** Promises 11 to 15: start, run, place, value, steps. Which calls are refused: RefusalTest. */
final class RunTest extends Rows {
    public static void main(String[] args) {
        CHECK.about("Promise 11: a run begins at instruction 0", RunTest::beginsAt0);
        CHECK.about("Promise 11: with variables 0 .. 3 being a .. d", RunTest::givesTheVariables);
        CHECK.about("Promise 11: the last two 0", RunTest::theLastTwoAre0);
        CHECK.about("Promise 11: an empty program's has ended", RunTest::anEmptyProgramsRun);
        CHECK.about("Promise 11: an empty rewritten program's has ended", RunTest::anEmptyRewrittensRun);
        CHECK.about("Promise 11: again, at any place", RunTest::startAgain);
        CHECK.about("Promise 12: does at most n steps: how many were done", RunTest::atMostN);
        CHECK.about("Promise 12: n of 0 does none", RunTest::nOf0);
        CHECK.about("Promise 12: n of 10,000 does so many", RunTest::nOf10000);
        CHECK.about("Promise 12: 0 if it has ended", RunTest::ifItHasEnded);
        CHECK.about("Promise 12: goes on where it was", RunTest::goesOn);
        CHECK.about("Promise 12: IllegalState: it was not started", RunTest::notStarted);
        CHECK.about("Promise 12: or not since the program was changed last", RunTest::notSinceTheChange);
        CHECK.about("Promise 12: (side 1: was rewritten) last", RunTest::notSinceTheRewriting);
        CHECK.about("Promise 13: the instruction that is next in a run", RunTest::place);
        CHECK.about("Promise 13: NONE if it has ended", RunTest::noPlace);
        CHECK.about("Promise 13: IllegalState, as with run", RunTest::placeAsWithRun);
        CHECK.about("Promise 14: a variable of a run", RunTest::value);
        CHECK.about("Promise 14: also of one that has ended", RunTest::valueOfTheEnded);
        CHECK.about("Promise 14: IllegalState, as with run", RunTest::valueAsWithRun);
        CHECK.about("Promise 15: how many steps a run has done", RunTest::steps);
        CHECK.about("Promise 15: over many runs of 10,000", RunTest::manySteps);
        CHECK.about("Promise 15: IllegalState, as with run", RunTest::stepsAsWithRun);
        CHECK.end();
    }

    private static void beginsAt0() {
        BranchConstants x = program(jump(2), halt(), set(0, 1));
        x.rewrite();
        for (int side = 0; side < 2; side++) {
            x.start(side, 9, 9, 9, 9);
            CHECK.stands("started", x, side, 0, 0);
        }
    }

    private static void givesTheVariables() {
        BranchConstants x = program(halt());
        x.rewrite();
        for (int side = 0; side < 2; side++) {
            x.start(side, MIN, -1, MAX, 4);
            CHECK.values("started", x, side, MIN, -1, MAX, 4, 0, 0);
        }
    }

    private static void theLastTwoAre0() {
        BranchConstants x = program(set(4, 9), set(5, 8), halt());
        x.rewrite();
        for (int side = 0; side < 2; side++) {
            x.start(side, 1, 2, 3, 4);
            x.run(side, 3);
            CHECK.values("before", x, side, 1, 2, 3, 4, 9, 8);
            x.start(side, 5, 6, 7, 8);
            CHECK.values("started again", x, side, 5, 6, 7, 8, 0, 0);
        }
    }

    private static void hasEnded(BranchConstants x, int side) {
        CHECK.stands("ended", x, side, NONE, 0);
        CHECK.values("ended", x, side, 1, 2, 3, 4, 0, 0);
        CHECK.due("run(" + side + ", 0)", 0, x.run(side, 0));
        CHECK.due("run(" + side + ", 10000)", 0, x.run(side, 10000));
        CHECK.stands("ended still", x, side, NONE, 0);
    }

    private static void anEmptyProgramsRun() {
        BranchConstants x = new BranchConstants();
        x.start(0, 1, 2, 3, 4);
        hasEnded(x, 0);
        BranchConstants cleared = program(set(0, 1));
        cleared.clear();
        cleared.start(0, 1, 2, 3, 4);
        hasEnded(cleared, 0);
        cleared.add(HALT, 0, 0, 0);
        CHECK.state("no longer empty: place(0)", () -> cleared.place(0));
    }

    private static void anEmptyRewrittensRun() {
        BranchConstants x = program(jump(40));
        CHECK.due("rewrite()", 0, x.rewrite());
        x.start(1, 1, 2, 3, 4);
        hasEnded(x, 1);
        x.start(0, 0, 0, 0, 0);
        CHECK.stands("the program's has not", x, 0, 0, 0);
    }

    private static void startAgain() {
        BranchConstants x = program(add(0, 0, 1), add(0, 0, 1), halt());
        for (int n = 0; n <= 4; n++) {
            x.start(0, n, 1, 0, 0);
            CHECK.stands("started", x, 0, 0, 0);
            CHECK.values("started", x, 0, n, 1, 0, 0, 0, 0);
            x.run(0, n);
        }
        x.start(0, 0, 1, 0, 0);
        CHECK.due("run(0, 9)", 3, x.run(0, 9));
    }

    private static void atMostN() {
        BranchConstants x = program(set(0, 1), set(1, 1), halt());
        for (int n = 0; n <= 5; n++) {
            x.start(0, 0, 0, 0, 0);
            CHECK.due("run(0, " + n + ")", Math.min(n, 3), x.run(0, n));
            CHECK.stands("run(0, " + n + ")", x, 0, n < 3 ? n : NONE, Math.min(n, 3));
            CHECK.values("run(0, " + n + ")", x, 0, n > 0 ? 1 : 0, n > 1 ? 1 : 0, 0, 0, 0, 0);
        }
    }

    private static void nOf0() {
        BranchConstants x = program(add(0, 0, 1), halt());
        x.start(0, 0, 1, 0, 0);
        for (int n = 0; n < 3; n++) {
            CHECK.due("run(0, 0)", 0, x.run(0, 0));
        }
        CHECK.stands("at the beginning", x, 0, 0, 0);
        x.run(0, 1);
        CHECK.due("run(0, 0)", 0, x.run(0, 0));
        CHECK.stands("one step on", x, 0, 1, 1);
    }

    private static void nOf10000() {
        BranchConstants x = program(add(0, 0, 1), jump(0));
        x.rewrite();
        for (int side = 0; side < 2; side++) {
            x.start(side, 0, 1, 0, 0);
            CHECK.due("run(" + side + ", 10000)", 10000, x.run(side, 10000));
            CHECK.stands("without end", x, side, 0, 10000);
            CHECK.due("run(" + side + ", 9999)", 9999, x.run(side, 9999));
            CHECK.stands("without end", x, side, 1, 19999);
            CHECK.due("value(" + side + ", 0)", 10000, x.value(side, 0));
        }
    }

    private static void ifItHasEnded() {
        int[][] lasts = {halt(), set(0, 1), jump(2), jump(40), zero(4, 2), zero(4, 40)};
        for (int[] last : lasts) {
            BranchConstants x = program(copy(1, 0), last);
            x.start(0, 3, 0, 0, 0);
            CHECK.due("run(0, 2)", 2, x.run(0, 2));
            CHECK.due("run(0, 1)", 0, x.run(0, 1));
            CHECK.due("run(0, 0)", 0, x.run(0, 0));
            CHECK.due("run(0, 10000)", 0, x.run(0, 10000));
            CHECK.stands("ended", x, 0, NONE, 2);
            CHECK.due("value(0, 1)", 3, x.value(0, 1));
        }
    }

    private static void goesOn() {
        BranchConstants x = program(set(1, 1), zero(0, 5), sub(0, 0, 1), add(2, 2, 0), jump(1), halt());
        x.start(0, 10, 0, 0, 0);
        CHECK.due("run(0, 7)", 7, x.run(0, 7));
        CHECK.stands("in the second round", x, 0, 3, 7);
        CHECK.due("run(0, 10000)", 36, x.run(0, 10000));
        CHECK.stands("ended", x, 0, NONE, 43);
        CHECK.values("ended", x, 0, 0, 1, 45, 0, 0, 0);
    }

    private static void notStarted() {
        BranchConstants x = program(halt());
        CHECK.state("run(0, 0)", () -> x.run(0, 0));
        CHECK.state("run(1, 0), without a rewritten program", () -> x.run(1, 0));
        x.rewrite();
        CHECK.state("run(1, 10000)", () -> x.run(1, 10000));
        CHECK.state("run(0, 10000)", () -> x.run(0, 10000));
        x.start(0, 0, 0, 0, 0);
        CHECK.state("run(1, 1), the other one started", () -> x.run(1, 1));
        CHECK.due("run(0, 1)", 1, x.run(0, 1));
        BranchConstants y = program(halt());
        y.rewrite();
        y.start(1, 0, 0, 0, 0);
        CHECK.state("run(0, 1), the other one started", () -> y.run(0, 1));
        CHECK.due("run(1, 1)", 1, y.run(1, 1));
    }

    private static void notSinceTheChange() {
        BranchConstants x = program(set(0, 2), halt());
        x.start(0, 0, 0, 0, 0);
        x.add(HALT, 0, 0, 0);
        CHECK.state("after add: run(0, 0)", () -> x.run(0, 0));
        x.start(0, 0, 0, 0, 0);
        CHECK.due("started after add: run(0, 0)", 0, x.run(0, 0));
        x.change(2, JUMP, 0, 0, 0);
        CHECK.state("after change: run(0, 0)", () -> x.run(0, 0));
        x.start(0, 0, 0, 0, 0);
        CHECK.due("started after change: run(0, 9)", 2, x.run(0, 9));
        x.change(2, JUMP, 0, 0, 0);
        CHECK.state("after change to the same, when ended: run(0, 0)", () -> x.run(0, 0));
        x.start(0, 0, 0, 0, 0);
        x.clear();
        CHECK.state("after clear: run(0, 0)", () -> x.run(0, 0));
        x.start(0, 0, 0, 0, 0);
        CHECK.due("started after clear: run(0, 9)", 0, x.run(0, 9));
        x.clear();
        CHECK.state("after clear of an empty one: run(0, 0)", () -> x.run(0, 0));
    }

    private static void notSinceTheRewriting() {
        BranchConstants x = program(add(0, 0, 1), halt());
        x.rewrite();
        x.start(1, 0, 0, 0, 0);
        CHECK.due("run(1, 1)", 1, x.run(1, 1));
        x.rewrite();
        CHECK.state("rewritten again: run(1, 1)", () -> x.run(1, 1));
        x.start(1, 0, 0, 0, 0);
        CHECK.due("started again: run(1, 9)", 2, x.run(1, 9));
        x.change(0, SUB, 0, 0, 1);
        CHECK.state("changed: run(1, 1)", () -> x.run(1, 1));
        x.rewrite();
        CHECK.state("changed and rewritten: run(1, 1)", () -> x.run(1, 1));
        x.start(1, 0, 5, 0, 0);
        CHECK.due("and started: run(1, 9)", 2, x.run(1, 9));
        CHECK.due("and started: value(1, 0)", -5, x.value(1, 0));
    }

    /** That a call is refused exactly where run is. */
    private static void asWithRun(Call first, Call second) {
        BranchConstants x = program(add(0, 0, 1), halt());
        String refused = "throws.IllegalStateException";
        CHECK.dueText("not started: " + first, refused, first.answer(x));
        CHECK.dueText("without a rewritten program: " + second, refused, second.answer(x));
        x.rewrite();
        CHECK.dueText("not started: " + second, refused, second.answer(x));
        x.start(0, 0, 0, 0, 0);
        CHECK.dueText("started: " + first, "0", first.answer(x));
        CHECK.dueText("the other one started: " + second, refused, second.answer(x));
        x.start(1, 0, 0, 0, 0);
        CHECK.dueText("started: " + second, "0", second.answer(x));
        x.rewrite();
        CHECK.dueText("rewritten again: " + second, refused, second.answer(x));
        CHECK.dueText("rewritten again: " + first, "0", first.answer(x));
        x.start(1, 0, 0, 0, 0);
        x.change(0, SUB, 0, 0, 1);
        CHECK.dueText("changed: " + first, refused, first.answer(x));
        CHECK.dueText("changed: " + second, refused, second.answer(x));
        x.rewrite();
        CHECK.dueText("changed and rewritten: " + first, refused, first.answer(x));
        CHECK.dueText("changed and rewritten: " + second, refused, second.answer(x));
        x.start(1, 0, 0, 0, 0);
        CHECK.dueText("only the other one started: " + first, refused, first.answer(x));
        CHECK.dueText("started again: " + second, "0", second.answer(x));
        x.start(0, 0, 0, 0, 0);
        CHECK.dueText("started again: " + first, "0", first.answer(x));
        x.add(HALT, 0, 0, 0);
        CHECK.dueText("one more: " + first, refused, first.answer(x));
        CHECK.dueText("one more: " + second, refused, second.answer(x));
        x.start(0, 0, 0, 0, 0);
        x.clear();
        CHECK.dueText("cleared: " + first, refused, first.answer(x));
    }

    private static void placeAsWithRun() {
        asWithRun(new Call("place", 0), new Call("place", 1));
    }

    private static void valueAsWithRun() {
        asWithRun(new Call("value", 0, 5), new Call("value", 1, 5));
    }

    private static void stepsAsWithRun() {
        asWithRun(new Call("steps", 0), new Call("steps", 1));
    }

    private static void place() {
        BranchConstants x = program(zero(0, 3), jump(4), halt(), jump(1), add(0, 1, 1), halt());
        x.start(0, 0, 0, 0, 0);
        int[] places = {0, 3, 1, 4, 5};
        for (int place : places) {
            CHECK.due("place(0)", place, x.place(0));
            x.run(0, 1);
        }
        BranchConstants full = programOf(40, set(0, 1));
        full.start(0, 0, 0, 0, 0);
        full.run(0, 39);
        CHECK.due("place(0) before the last of 40", 39, full.place(0));
    }

    private static void noPlace() {
        int[][] lasts = {halt(), set(0, 1), jump(2), jump(40), zero(4, 2), zero(4, 40), zero(3, 0)};
        for (int[] last : lasts) {
            BranchConstants x = program(copy(1, 0), last);
            x.start(0, 3, 0, 0, 1);
            x.run(0, 1);
            CHECK.due("before the last one: place(0)", 1, x.place(0));
            x.run(0, 1);
            CHECK.due("behind kind " + last[0] + ": place(0)", NONE, x.place(0));
        }
    }

    private static void value() {
        BranchConstants x = program(set(0, MIN), set(5, MAX), copy(3, 4));
        x.start(0, 1, 2, 3, 4);
        CHECK.values("at the beginning", x, 0, 1, 2, 3, 4, 0, 0);
        x.run(0, 1);
        CHECK.values("after one", x, 0, MIN, 2, 3, 4, 0, 0);
        x.run(0, 1);
        CHECK.values("after two", x, 0, MIN, 2, 3, 4, 0, MAX);
        x.run(0, 1);
        CHECK.values("after three", x, 0, MIN, 2, 3, 0, 0, MAX);
    }

    private static void valueOfTheEnded() {
        BranchConstants x = program(set(0, 7), halt(), set(0, 8));
        x.start(0, 1, 2, 3, 4);
        x.run(0, 10000);
        CHECK.values("ended", x, 0, 7, 2, 3, 4, 0, 0);
        x.run(0, 10000);
        CHECK.values("ended still", x, 0, 7, 2, 3, 4, 0, 0);
    }

    private static void steps() {
        BranchConstants x = program(zero(0, 2), halt(), set(1, 1), halt());
        x.start(0, 0, 0, 0, 0);
        CHECK.due("at the beginning", 0, x.steps(0));
        x.run(0, 1);
        CHECK.due("after one", 1, x.steps(0));
        x.run(0, 9);
        CHECK.due("ended", 3, x.steps(0));
        x.run(0, 9);
        CHECK.due("ended still", 3, x.steps(0));
        x.start(0, 1, 0, 0, 0);
        CHECK.due("started again", 0, x.steps(0));
        x.run(0, 9);
        CHECK.due("ended on the other way", 2, x.steps(0));
    }

    private static void manySteps() {
        BranchConstants x = program(jump(0));
        x.start(0, 0, 0, 0, 0);
        for (int n = 1; n <= 250; n++) {
            x.run(0, 10000);
            CHECK.due("steps(0)", 10000 * n, x.steps(0));
        }
    }
}
