/** The term THE ANALYSIS, and promises 5 to 8: reached, reachedAll, known, constant. */
final class AnalysisTest extends Rows {
    public static void main(String[] args) {
        CHECK.about("ANALYSIS: instruction 0 is reached, with all variables varying", AnalysisTest::instruction0);
        CHECK.about("ANALYSIS: so it is if constants come back to it", AnalysisTest::backToInstruction0);
        CHECK.about("ANALYSIS: SET: v is k", AnalysisTest::behindSet);
        CHECK.about("ANALYSIS: COPY: v is as w", AnalysisTest::behindCopy);
        CHECK.about("ANALYSIS: ADD, SUB, MUL: v is constant if both are", AnalysisTest::bothConstant);
        CHECK.about("ANALYSIS: for MUL if one of them is the constant 0 (then 0)", AnalysisTest::mulByZero);
        CHECK.about("ANALYSIS: otherwise it varies", AnalysisTest::otherwiseItVaries);
        CHECK.about("ANALYSIS: others stay", AnalysisTest::othersStay);
        CHECK.about("ANALYSIS: others stay, on each way for itself", AnalysisTest::othersStayOnEachWay);
        CHECK.about("ANALYSIS: JUMP goes on at t alone", AnalysisTest::behindJump);
        CHECK.about("ANALYSIS: HALT nowhere", AnalysisTest::behindHalt);
        CHECK.about("ANALYSIS: ZERO, if v is constant, along the one way that it takes", AnalysisTest::zeroOfAConstant);
        CHECK.about("ANALYSIS: ZERO, if v varies, along both", AnalysisTest::zeroOfAVarying);
        CHECK.about("ANALYSIS: v being the constant 0 along that to t", AnalysisTest::zeroAlongT);
        CHECK.about("ANALYSIS: ZERO whose two ways come to the same one", AnalysisTest::zeroToTheNext);
        CHECK.about("ANALYSIS: all others go on at the next one", AnalysisTest::onAtTheNext);
        CHECK.about("ANALYSIS: to which something goes on is reached", AnalysisTest::isReached);
        CHECK.about("ANALYSIS: as different constants it varies", AnalysisTest::differentConstants);
        CHECK.about("ANALYSIS: coming varying it varies", AnalysisTest::comingVarying);
        CHECK.about("ANALYSIS: as one constant it is that", AnalysisTest::sameConstants);
        CHECK.about("ANALYSIS: the END is no instruction", AnalysisTest::theEnd);
        CHECK.about("ANALYSIS: the END is no instruction, nor is that of before", AnalysisTest::theEndOfBefore);
        CHECK.about("ANALYSIS: the least answer: fewest instructions REACHED", AnalysisTest::fewestReached);
        CHECK.about("ANALYSIS: the least answer: fewest values that VARY", AnalysisTest::fewestVary);
        CHECK.about("ANALYSIS: a loop", AnalysisTest::aLoop);
        CHECK.about("ANALYSIS: one variable after another comes to vary", AnalysisTest::oneAfterAnother);
        CHECK.about("ANALYSIS: the longest ways round", AnalysisTest::longWays);
        CHECK.about("Promise 5: whether an instruction is reached", AnalysisTest::reached);
        CHECK.about("Promise 5: of the program as it is", AnalysisTest::asItIs);
        CHECK.about("Promise 5: of the program as it is: what is reached no longer", AnalysisTest::reachedNoLonger);
        CHECK.about("Promise 6: how many instructions are reached", AnalysisTest::reachedAll);
        CHECK.about("Promise 7: before an instruction", AnalysisTest::beforeAnInstruction);
        CHECK.about("Promise 7: VARIES, CONSTANT, or 0 if not reached", AnalysisTest::known);
        CHECK.about("Promise 8: its constant", AnalysisTest::constant);
        CHECK.about("Promise 8: 0 if it is none", AnalysisTest::noConstant);
        CHECK.end();
    }

    private static void constantIs(BranchConstants x, int i, int v, int want) {
        CHECK.due("known(" + i + ", " + v + ")", CONSTANT, x.known(i, v));
        CHECK.due("constant(" + i + ", " + v + ")", want, x.constant(i, v));
    }

    private static void varies(BranchConstants x, int i, int v) {
        CHECK.due("known(" + i + ", " + v + ")", VARIES, x.known(i, v));
        CHECK.due("constant(" + i + ", " + v + ")", 0, x.constant(i, v));
    }

    /** That exactly these instructions are reached. */
    private static void reachedAre(BranchConstants x, int count, int... want) {
        CHECK.due("reachedAll()", want.length, x.reachedAll());
        for (int i = 0; i < count; i++) {
            boolean isWanted = false;
            for (int w : want) {
                isWanted |= w == i;
            }
            CHECK.due("reached(" + i + ")", isWanted, x.reached(i));
        }
    }

    /** Also the last two, though a run begins with them being 0. */
    private static void instruction0() {
        BranchConstants x = program(mul(0, 4, 5), halt());
        reachedAre(x, 2, 0, 1);
        for (int v = 0; v < 6; v++) {
            varies(x, 0, v);
            varies(x, 1, v);
        }
    }

    private static void backToInstruction0() {
        BranchConstants x = program(add(1, 0, 0), set(0, 0), jump(0));
        varies(x, 0, 0);
        varies(x, 0, 1);
        varies(x, 1, 1);
        constantIs(x, 2, 0, 0);
        BranchConstants self = program(zero(3, 0), halt());
        varies(self, 0, 3);
    }

    private static void behindSet() {
        int[] numbers = {MIN, -1, 0, 1, MAX};
        for (int k : numbers) {
            for (int v = 0; v < 6; v++) {
                BranchConstants x = program(set(v, k), halt());
                varies(x, 0, v);
                constantIs(x, 1, v, k);
            }
        }
        constantIs(program(set(0, 1), set(0, 2), halt()), 2, 0, 2);
    }

    private static void behindCopy() {
        BranchConstants x = program(set(0, 7), copy(1, 0), copy(0, 0), copy(0, 5), copy(1, 1), copy(2, 2), halt());
        constantIs(x, 2, 1, 7);
        constantIs(x, 3, 0, 7);
        varies(x, 4, 0);
        constantIs(x, 4, 1, 7);
        constantIs(x, 5, 1, 7);
        varies(x, 6, 2);
    }

    private static void bothConstant() {
        BranchConstants x = program(set(0, 7), set(1, -3), add(2, 0, 1), sub(3, 0, 1), sub(4, 1, 0), mul(5, 0, 1),
                add(0, 0, 0), mul(1, 1, 1), sub(2, 2, 2), halt());
        constantIs(x, 9, 0, 14);
        constantIs(x, 9, 1, 9);
        constantIs(x, 9, 2, 0);
        constantIs(x, 9, 3, 10);
        constantIs(x, 9, 4, -10);
        constantIs(x, 9, 5, -21);
        constantIs(x, 3, 2, 4);
    }

    private static void mulByZero() {
        BranchConstants x = program(set(0, 0), mul(1, 0, 5), mul(2, 5, 0), mul(3, 0, 0), mul(0, 0, 5), mul(5, 5, 0),
                halt());
        constantIs(x, 2, 1, 0);
        constantIs(x, 3, 2, 0);
        constantIs(x, 4, 3, 0);
        constantIs(x, 5, 0, 0);
        constantIs(x, 6, 5, 0);
        BranchConstants byTheWay = program(zero(2, 2), halt(), mul(3, 2, 1), halt());
        constantIs(byTheWay, 3, 3, 0);
        BranchConstants behindAnother = program(set(0, 0), set(4, 7), mul(1, 0, 5), set(4, 8), mul(2, 5, 0), halt());
        constantIs(behindAnother, 3, 1, 0);
        constantIs(behindAnother, 5, 2, 0);
    }

    private static void otherwiseItVaries() {
        int[][] rows = {add(2, 0, 5), add(2, 5, 0), sub(2, 0, 5), sub(2, 5, 0), sub(2, 5, 5), mul(2, 1, 5),
            mul(2, 5, 1), mul(2, 5, 5), mul(2, 2, 5), add(2, 5, 5), mul(2, 4, 5)};
        for (int[] row : rows) {
            BranchConstants x = program(set(0, 0), set(1, 1), set(2, -1), row, halt());
            constantIs(x, 3, 2, -1);
            varies(x, 4, 2);
        }
    }

    private static void othersStay() {
        int[][] rows = {set(5, 9), copy(5, 0), copy(5, 4), add(5, 0, 1), add(5, 4, 4), sub(5, 0, 4), mul(5, 1, 4),
            zero(0, 7), zero(5, 7), zero(4, 7), jump(7)};
        for (int[] row : rows) {
            BranchConstants x = program(set(0, 10), set(1, 11), set(2, 12), set(3, 13), set(5, 15), row, jump(7),
                    halt());
            for (int v = 0; v < 4; v++) {
                constantIs(x, 7, v, 10 + v);
            }
            varies(x, 7, 4);
        }
    }

    /** The way between the two where it is another is gone before the one where it stays. */
    private static void othersStayOnEachWay() {
        for (int v = 0; v < 6; v++) {
            int other = (v + 1) % 6;
            BranchConstants constant = program(set(v, 1), zero(other, 4), set(v, 2), halt(), set(other, 3), halt());
            constantIs(constant, 3, v, 2);
            constantIs(constant, 4, v, 1);
            constantIs(constant, 5, v, 1);
            BranchConstants varying = program(zero(other, 3), set(v, 2), halt(), set(other, 3), halt());
            constantIs(varying, 2, v, 2);
            varies(varying, 3, v);
            varies(varying, 4, v);
        }
    }

    private static void behindJump() {
        reachedAre(program(jump(2), set(0, 1), halt()), 3, 0, 2);
        BranchConstants back = program(jump(3), set(0, 1), halt(), set(0, 2), jump(2), set(0, 3));
        reachedAre(back, 6, 0, 3, 4, 2);
        constantIs(back, 2, 0, 2);
    }

    private static void behindHalt() {
        reachedAre(program(halt(), set(0, 1), jump(0)), 3, 0);
    }

    private static void zeroOfAConstant() {
        int[] numbers = {0, 1, -1, MIN, MAX, 65536};
        for (int k : numbers) {
            BranchConstants x = program(set(3, k), zero(3, 4), set(0, 1), halt(), set(0, 2), halt());
            if (k == 0) {
                reachedAre(x, 6, 0, 1, 4, 5);
            } else {
                reachedAre(x, 6, 0, 1, 2, 3);
            }
            constantIs(x, k == 0 ? 5 : 3, 3, k);
            constantIs(x, k == 0 ? 5 : 3, 0, k == 0 ? 2 : 1);
        }
    }

    private static void zeroOfAVarying() {
        reachedAre(program(zero(2, 3), halt(), set(0, 1), set(0, 2), halt()), 5, 0, 1, 3, 4);
        reachedAre(program(jump(2), halt(), zero(2, 1), set(0, 2)), 4, 0, 1, 2, 3);
    }

    private static void zeroAlongT() {
        BranchConstants x = program(set(1, 8), zero(2, 3), halt(), add(4, 2, 1), halt());
        varies(x, 2, 2);
        constantIs(x, 2, 1, 8);
        constantIs(x, 3, 2, 0);
        constantIs(x, 3, 1, 8);
        varies(x, 3, 0);
        constantIs(x, 4, 4, 8);
        BranchConstants known = program(zero(2, 2), halt(), zero(2, 4), halt(), halt());
        reachedAre(known, 5, 0, 1, 2, 4);
    }

    private static void zeroToTheNext() {
        varies(program(zero(2, 1), halt()), 1, 2);
        BranchConstants zero = program(set(2, 0), zero(2, 2), halt());
        constantIs(zero, 2, 2, 0);
        BranchConstants one = program(set(2, 1), zero(2, 2), halt());
        constantIs(one, 2, 2, 1);
    }

    private static void onAtTheNext() {
        int[][] rows = {set(0, 1), copy(0, 1), add(0, 1, 2), sub(0, 1, 2), mul(0, 1, 2)};
        for (int[] row : rows) {
            reachedAre(program(row, halt(), halt()), 3, 0, 1);
            reachedAre(program(row), 1, 0);
        }
        reachedAre(program(zero(0, 0)), 1, 0);
    }

    private static void isReached() {
        BranchConstants x = program(jump(3), set(0, 1), halt(), zero(0, 1), set(0, 2));
        reachedAre(x, 5, 0, 1, 2, 3, 4);
    }

    /** Two ways that come to 7; the rows tell what v 1 is on the one and on the other. */
    private static BranchConstants twoWays(int[] one, int[] other) {
        return program(set(2, 0), copy(3, 4), zero(0, 5), one, jump(6), other, jump(7), halt());
    }

    private static void differentConstants() {
        int[][] pairs = {{5, 6}, {0, 1}, {1, 0}, {MIN, MAX}, {MIN, 0}, {0, MIN}, {1, -1}, {-1, 65535}};
        for (int[] pair : pairs) {
            varies(twoWays(set(1, pair[0]), set(1, pair[1])), 7, 1);
        }
    }

    private static void comingVarying() {
        varies(twoWays(set(1, 5), copy(1, 3)), 7, 1);
        varies(twoWays(copy(1, 3), set(1, 5)), 7, 1);
        varies(twoWays(set(1, 0), copy(1, 3)), 7, 1);
        varies(twoWays(copy(1, 3), set(1, 0)), 7, 1);
        varies(twoWays(copy(1, 3), copy(1, 3)), 7, 1);
    }

    private static void sameConstants() {
        int[] numbers = {MIN, -1, 0, 1, MAX};
        for (int k : numbers) {
            constantIs(twoWays(set(1, k), set(1, k)), 7, 1, k);
        }
        constantIs(twoWays(set(1, 0), copy(1, 0)), 7, 1, 0);
        constantIs(twoWays(set(0, 0), set(1, 1)), 7, 0, 0);
        constantIs(twoWays(set(1, 0), mul(1, 3, 2)), 7, 1, 0);
    }

    private static void theEnd() {
        BranchConstants x = program(zero(0, 40), zero(1, 3), zero(2, 39), set(0, 1));
        reachedAre(x, 4, 0, 1, 2, 3);
        CHECK.index("reached(4)", () -> x.reached(4));
        CHECK.index("known(4, 0)", () -> x.known(4, 0));
        reachedAre(program(jump(1)), 1, 0);
        reachedAre(program(jump(40), halt()), 2, 0);
    }

    /** What went on at the END goes on at nothing, once an instruction stands there that nothing goes on to. */
    private static void theEndOfBefore() {
        int[][] lasts = {set(0, 1), zero(0, 40), jump(1)};
        for (int[] last : lasts) {
            BranchConstants x = program(last);
            reachedAre(x, 1, 0);
            x.change(0, HALT, 0, 0, 0);
            x.add(SET, 0, 5, 0);
            x.add(HALT, 0, 0, 0);
            reachedAre(x, 3, 0);
            CHECK.due("known(2, 0)", 0, x.known(2, 0));
        }
    }

    /** The way that would make v 0 come to be 0 could only be taken if it were 0 already. */
    private static void fewestReached() {
        BranchConstants x = program(set(0, 1), zero(0, 4), zero(1, 1), halt(), set(0, 0), jump(1));
        reachedAre(x, 6, 0, 1, 2, 3);
        constantIs(x, 1, 0, 1);
        reachedAre(program(halt(), jump(2), jump(1)), 3, 0);
    }

    private static void fewestVary() {
        constantIs(program(set(0, 4), copy(0, 0), jump(1)), 1, 0, 4);
        BranchConstants round = program(set(0, 4), set(1, 4), copy(2, 0), copy(0, 1), copy(1, 2), jump(2));
        constantIs(round, 2, 0, 4);
        constantIs(round, 2, 1, 4);
        varies(round, 2, 2);
        BranchConstants zero = program(set(0, 0), mul(0, 0, 5), copy(5, 4), jump(1));
        constantIs(zero, 1, 0, 0);
    }

    private static void aLoop() {
        BranchConstants x = program(set(0, 3), set(1, 1), set(2, 9), zero(0, 6), sub(0, 0, 1), jump(3), halt());
        varies(x, 3, 0);
        varies(x, 4, 0);
        varies(x, 5, 0);
        constantIs(x, 6, 0, 0);
        constantIs(x, 3, 1, 1);
        constantIs(x, 6, 2, 9);
        reachedAre(x, 7, 0, 1, 2, 3, 4, 5, 6);
    }

    private static void oneAfterAnother() {
        BranchConstants x = new BranchConstants();
        for (int v = 0; v < 6; v++) {
            x.add(SET, v, 1, 0);
        }
        for (int v = 0; v < 5; v++) {
            x.add(COPY, v, v + 1, 0);
        }
        x.add(ADD, 5, 5, 5);
        x.add(JUMP, 0, 6, 0);
        for (int v = 0; v < 6; v++) {
            varies(x, 6, v);
        }
        constantIs(x, 5, 0, 1);
    }

    private static void longWays() {
        BranchConstants x = program(jump(39), halt());
        for (int i = 2; i < 40; i++) {
            x.add(JUMP, 0, i - 1, 0);
        }
        CHECK.due("backwards: reachedAll()", 40, x.reachedAll());
        BranchConstants y = new BranchConstants();
        for (int v = 0; v < 6; v++) {
            y.add(SET, v, 1, 0);
        }
        for (int v = 0; v < 5; v++) {
            y.add(COPY, v, v + 1, 0);
        }
        y.add(ADD, 5, 5, 5);
        y.add(JUMP, 0, 39, 0);
        y.add(JUMP, 0, 6, 0);
        for (int i = 14; i < 40; i++) {
            y.add(JUMP, 0, i - 1, 0);
        }
        CHECK.due("round for each variable: reachedAll()", 40, y.reachedAll());
        for (int v = 0; v < 6; v++) {
            varies(y, 6, v);
            varies(y, 39, v);
        }
    }

    private static void reached() {
        BranchConstants x = program(zero(0, 2), jump(4), halt(), set(0, 1), halt());
        boolean[] want = {true, true, true, false, true};
        for (int i = 0; i < 5; i++) {
            CHECK.due("reached(" + i + ")", want[i], x.reached(i));
        }
    }

    private static void asItIs() {
        BranchConstants x = program(set(0, 0), zero(0, 3), set(1, 1), halt());
        CHECK.due("first: reached(2)", false, x.reached(2));
        CHECK.due("first: reachedAll()", 3, x.reachedAll());
        x.change(0, SET, 0, 1, 0);
        CHECK.due("changed: reached(2)", true, x.reached(2));
        CHECK.due("changed: constant(2, 0)", 1, x.constant(2, 0));
        x.add(SET, 1, 2, 0);
        CHECK.due("one more behind the halt: reached(4)", false, x.reached(4));
        x.change(3, COPY, 0, 5, 0);
        CHECK.due("changed again: reached(4)", true, x.reached(4));
        CHECK.due("changed again: known(4, 0)", VARIES, x.known(4, 0));
        CHECK.due("rewrite()", 4, x.rewrite());
        CHECK.due("rewritten, yet of the program: reachedAll()", 5, x.reachedAll());
        x.clear();
        CHECK.due("cleared: reachedAll()", 0, x.reachedAll());
        x.add(HALT, 0, 0, 0);
        x.add(HALT, 0, 0, 0);
        CHECK.due("filled again: reached(1)", false, x.reached(1));
        CHECK.due("filled again: known(1, 0)", 0, x.known(1, 0));
    }

    private static void reachedNoLonger() {
        BranchConstants x = program(set(0, 1), set(0, 5), set(1, 6), halt());
        reachedAre(x, 4, 0, 1, 2, 3);
        x.change(0, HALT, 0, 0, 0);
        reachedAre(x, 4, 0);
        for (int i = 1; i < 4; i++) {
            for (int v = 0; v < 6; v++) {
                CHECK.due("known(" + i + ", " + v + ")", 0, x.known(i, v));
                CHECK.due("constant(" + i + ", " + v + ")", 0, x.constant(i, v));
            }
        }
        x.change(0, JUMP, 0, 3, 0);
        reachedAre(x, 4, 0, 3);
        varies(x, 3, 0);
        varies(x, 3, 1);
    }

    private static void reachedAll() {
        CHECK.due("of none", 0, new BranchConstants().reachedAll());
        CHECK.due("of a HALT", 1, program(halt()).reachedAll());
        CHECK.due("of a JUMP to itself", 1, program(jump(0)).reachedAll());
        CHECK.due("of forty HALTs", 1, programOf(40, halt()).reachedAll());
        CHECK.due("of forty SETs", 40, programOf(40, set(0, 1)).reachedAll());
    }

    private static void beforeAnInstruction() {
        BranchConstants x = program(set(0, 1), set(0, 2), copy(0, 1), halt());
        varies(x, 0, 0);
        constantIs(x, 1, 0, 1);
        constantIs(x, 2, 0, 2);
        varies(x, 3, 0);
    }

    private static void known() {
        BranchConstants x = program(set(0, 0), jump(3), set(1, 1), halt());
        for (int v = 0; v < 6; v++) {
            CHECK.due("known(3, " + v + ")", v == 0 ? CONSTANT : VARIES, x.known(3, v));
            CHECK.due("known(2, " + v + ")", 0, x.known(2, v));
        }
    }

    private static void constant() {
        int[] numbers = {MIN, -1, 0, 1, 2, MAX};
        for (int k : numbers) {
            BranchConstants x = program(set(5, k), halt());
            CHECK.due("constant(1, 5)", k, x.constant(1, 5));
            CHECK.due("known(1, 5)", CONSTANT, x.known(1, 5));
        }
    }

    /** Where a constant was before: nothing of it is left. */
    private static void noConstant() {
        BranchConstants x = program(set(0, 7), copy(1, 0), copy(2, 0), halt());
        CHECK.due("constant(3, 1)", 7, x.constant(3, 1));
        x.change(0, COPY, 0, 5, 0);
        for (int v = 0; v < 6; v++) {
            CHECK.due("varying: constant(3, " + v + ")", 0, x.constant(3, v));
        }
        x.change(0, SET, 0, 7, 0);
        CHECK.due("constant(3, 2)", 7, x.constant(3, 2));
        x.change(1, HALT, 0, 0, 0);
        for (int v = 0; v < 6; v++) {
            CHECK.due("not reached: constant(3, " + v + ")", 0, x.constant(3, v));
        }
        BranchConstants first = program(set(0, 7), set(5, 8), halt());
        CHECK.due("constant(2, 5)", 8, first.constant(2, 5));
        first.change(2, SET, 4, 9, 0);
        for (int v = 0; v < 6; v++) {
            CHECK.due("varying at the beginning: constant(0, " + v + ")", 0, first.constant(0, v));
        }
        BranchConstants joined = program(zero(5, 3), set(0, 7), jump(4), set(0, 8), halt());
        CHECK.due("two constants: constant(4, 0)", 0, joined.constant(4, 0));
    }
}
