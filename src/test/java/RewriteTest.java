/** The term REWRITING, and promises 9 and 10: rewrite, code. Which calls are refused: RefusalTest. */
final class RewriteTest extends Rows {
    public static void main(String[] args) {
        CHECK.about("FOLD: SET, COPY, ADD, SUB, MUL becomes SET v with that", RewriteTest::foldsEachKind);
        CHECK.about("FOLD: only if v is constant behind it", RewriteTest::foldsNothingThatVaries);
        CHECK.about("FOLD: behind it, and not where it goes on", RewriteTest::foldsByWhatIsBehind);
        CHECK.about("FOLD: ZERO becomes a JUMP to t, if v is 0", RewriteTest::foldsZeroThatIsTaken);
        CHECK.about("FOLD: ZERO becomes a JUMP to the next, if v is another", RewriteTest::foldsZeroThatIsNotTaken);
        CHECK.about("FOLD: ZERO becomes a JUMP to the END", RewriteTest::foldsZeroToTheEnd);
        CHECK.about("FOLD: ZERO whose v varies stays", RewriteTest::leavesZeroThatVaries);
        CHECK.about("THREAD: each t of a JUMP that is the number of a JUMP", RewriteTest::threadsJumps);
        CHECK.about("THREAD: each t of a ZERO that is the number of a JUMP", RewriteTest::threadsZeros);
        CHECK.about("THREAD: a JUMP as it is now, once a ZERO", RewriteTest::threadsThroughFoldedZeros);
        CHECK.about("THREAD: and so on until it is the END", RewriteTest::threadsToTheEnd);
        CHECK.about("THREAD: and so on until it is none, the longest chain", RewriteTest::threadsTheLongestChain);
        CHECK.about("THREAD: a t of a JUMP that never comes to an end stays", RewriteTest::leavesJumpsGoingRound);
        CHECK.about("THREAD: a t of a ZERO that never comes to an end stays", RewriteTest::leavesZerosToARound);
        CHECK.about("THREAD: 40 JUMPs that never come to an end", RewriteTest::leavesTheLongestRound);
        CHECK.about("DROP: only what can be come to from instruction 0 stays", RewriteTest::dropsWhatCannotBeComeTo);
        CHECK.about("DROP: by the instructions as they are now", RewriteTest::dropsByWhatIsNow);
        CHECK.about("DROP: ZERO going both ways", RewriteTest::comesBothWays);
        CHECK.about("DROP: each JUMP goes whose t is the first behind it", RewriteTest::dropsAJumpToTheNext);
        CHECK.about("DROP: of those that are still there", RewriteTest::dropsAJumpOverWhatWent);
        CHECK.about("DROP: from the last one to the first", RewriteTest::dropsFromTheLast);
        CHECK.about("DROP: a JUMP to another one stays", RewriteTest::leavesOtherJumps);
        CHECK.about("DROP: or the END, if none is", RewriteTest::dropsAJumpToTheEnd);
        CHECK.about("DROP: a JUMP to the END, if one is behind it, stays", RewriteTest::leavesAJumpToTheEnd);
        CHECK.about("DROP: a t that went is not the first still there", RewriteTest::jumpsRoundOneAnother);
        CHECK.about("NUMBER: anew in its order", RewriteTest::numbersInOrder);
        CHECK.about("NUMBER: the first one at or behind t that is left", RewriteTest::numbersWhatIsLeft);
        CHECK.about("NUMBER: how many there are if none is", RewriteTest::numbersTheEnd);
        CHECK.about("Promise 9: how many instructions there are", RewriteTest::howManyThereAre);
        CHECK.about("Promise 9: perhaps none", RewriteTest::perhapsNone);
        CHECK.about("Promise 9: the run of the program goes on", RewriteTest::theRunGoesOn);
        CHECK.about("Promise 9: the program stays as it is", RewriteTest::theProgramStays);
        CHECK.about("Promise 9: again, and after changes", RewriteTest::again);
        CHECK.about("Promise 10: of the program, side 0", RewriteTest::codeOfTheProgram);
        CHECK.about("Promise 10: of the rewritten program, side 1", RewriteTest::codeOfTheRewritten);
        CHECK.about("Promise 10: 0 for those that it does not need", RewriteTest::zeroForWhatIsNotNeeded);
        CHECK.end();
    }

    private static void foldsEachKind() {
        CHECK.rewritten("each kind", program(set(0, 7), set(1, MIN), copy(2, 0), add(3, 0, 0), sub(3, 1, 0),
                mul(0, 0, 0), set(1, 0), mul(2, 1, 4), mul(2, 4, 1)),
                set(0, 7), set(1, MIN), set(2, 7), set(3, 14), set(3, MAX - 6), set(0, 49), set(1, 0), set(2, 0),
                set(2, 0));
    }

    private static void foldsNothingThatVaries() {
        CHECK.rewritten("nothing to fold", program(copy(2, 0), add(3, 0, 1), sub(3, 3, 3), mul(5, 4, 3), set(0, 1),
                mul(1, 0, 2), add(0, 0, 5), halt()),
                copy(2, 0), add(3, 0, 1), sub(3, 3, 3), mul(5, 4, 3), set(0, 1), mul(1, 0, 2), add(0, 0, 5), halt());
    }

    private static void foldsByWhatIsBehind() {
        CHECK.rewritten("varies only where it goes on", program(zero(0, 3), set(1, 5), add(1, 1, 1), halt()),
                zero(0, 3), set(1, 5), set(1, 10), halt());
    }

    private static void foldsZeroThatIsTaken() {
        CHECK.rewritten("on", program(set(0, 0), zero(0, 4), set(1, 1), halt(), set(1, 2), halt()),
                set(0, 0), set(1, 2), halt());
        CHECK.rewritten("back", program(set(5, 0), add(1, 1, 2), zero(5, 1), halt()),
                set(5, 0), add(1, 1, 2), jump(1));
    }

    private static void foldsZeroThatIsNotTaken() {
        int[] others = {1, -1, MIN, MAX};
        for (int k : others) {
            CHECK.rewritten("on", program(set(0, k), zero(0, 4), set(1, 1), halt(), set(1, 2), halt()),
                    set(0, k), set(1, 1), halt());
            CHECK.rewritten("on and back", program(set(5, k), add(1, 1, 2), zero(5, 5), jump(1), halt(), halt()),
                    set(5, k), add(1, 1, 2), jump(1));
        }
    }

    private static void foldsZeroToTheEnd() {
        CHECK.rewritten("as the last one", program(set(0, 1), zero(0, 0)), set(0, 1));
        CHECK.rewritten("as the last one, taken", program(set(0, 0), zero(0, 40)), set(0, 0));
        CHECK.rewritten("with one behind it", program(set(0, 0), zero(1, 3), zero(0, 40), halt()),
                set(0, 0), zero(1, 3), jump(4), halt());
    }

    private static void leavesZeroThatVaries() {
        CHECK.rewritten("to the next and to the END", program(zero(4, 1), zero(5, 40)), zero(4, 1), zero(5, 2));
        CHECK.rewritten("to itself", program(zero(4, 0)), zero(4, 0));
    }

    private static void threadsJumps() {
        CHECK.rewritten("three in a row", program(zero(0, 3), set(1, 1), jump(4), halt(), jump(5), jump(7), halt(),
                sub(1, 1, 0)),
                zero(0, 3), set(1, 1), jump(4), halt(), sub(1, 1, 0));
    }

    private static void threadsZeros() {
        CHECK.rewritten("three in a row", program(zero(0, 3), set(1, 1), halt(), jump(5), halt(), jump(6), jump(7),
                sub(1, 1, 0)),
                zero(0, 3), set(1, 1), halt(), sub(1, 1, 0));
        CHECK.rewritten("back", program(set(1, 1), jump(3), jump(0), zero(0, 2)), set(1, 1), zero(0, 0));
    }

    private static void threadsThroughFoldedZeros() {
        CHECK.rewritten("taken", program(set(0, 0), zero(1, 4), set(2, 1), halt(), zero(0, 6), halt(), set(2, 2)),
                set(0, 0), zero(1, 4), set(2, 1), halt(), set(2, 2));
        CHECK.rewritten("not taken", program(set(0, 1), zero(1, 4), set(2, 1), halt(), zero(0, 2), set(2, 2)),
                set(0, 1), zero(1, 4), set(2, 1), halt(), set(2, 2));
    }

    private static void threadsToTheEnd() {
        int[] ends = {4, 5, 39, 40};
        for (int end : ends) {
            CHECK.rewritten("of a ZERO to " + end, program(zero(0, 3), set(1, 1), halt(), jump(end)),
                    zero(0, 3), set(1, 1), halt());
        }
        CHECK.rewritten("of a JUMP", program(zero(0, 2), jump(4), set(1, 1), halt(), jump(5)),
                zero(0, 2), jump(4), set(1, 1), halt());
        CHECK.rewritten("with one behind the JUMP", program(zero(0, 3), zero(1, 4), halt(), jump(40), set(1, 1)),
                zero(0, 4), zero(1, 3), halt(), set(1, 1));
    }

    private static void threadsTheLongestChain() {
        BranchConstants x = program(zero(0, 39), halt(), set(1, 1));
        for (int i = 3; i < 40; i++) {
            x.add(JUMP, 0, i - 1, 0);
        }
        CHECK.rewritten("37 JUMPs backwards", x, zero(0, 2), halt(), set(1, 1), jump(2));
        BranchConstants y = program(jump(39), jump(40));
        for (int i = 2; i < 40; i++) {
            y.add(JUMP, 0, i - 1, 0);
        }
        CHECK.rewritten("40 JUMPs to the END", y);
    }

    private static void leavesJumpsGoingRound() {
        CHECK.rewritten("to itself", program(jump(0)), jump(0));
        CHECK.rewritten("to itself, behind others", program(copy(0, 1), halt(), jump(2)), copy(0, 1), halt());
        CHECK.rewritten("to one that goes to itself", program(zero(0, 3), jump(4), halt(), set(1, 1), jump(4)),
                zero(0, 2), jump(3), set(1, 1), jump(3));
        CHECK.rewritten("once a ZERO", program(set(0, 0), zero(0, 1), halt()), set(0, 0), jump(1));
        CHECK.rewritten("to one that comes to a round", program(zero(0, 2), jump(5), halt(), jump(4), jump(3), jump(3)),
                zero(0, 2), jump(4), halt(), jump(3), jump(3));
    }

    /** The t of the ZERO is not put on to the round, it stays 3 and 4. */
    private static void leavesZerosToARound() {
        CHECK.rewritten("to one that goes to itself", program(zero(0, 3), halt(), jump(2), jump(2)),
                zero(0, 3), halt(), jump(2), jump(2));
        CHECK.rewritten("to two that go round", program(zero(0, 4), halt(), jump(3), jump(2), jump(3)),
                zero(0, 3), halt(), jump(2), jump(2));
    }

    /** Every second one is still there when the one before it is looked at. */
    private static void leavesTheLongestRound() {
        BranchConstants x = new BranchConstants();
        for (int i = 0; i < 40; i++) {
            x.add(JUMP, 0, i == 39 ? 0 : i + 1, 0);
        }
        int[][] rows = new int[20][];
        for (int i = 0; i < 20; i++) {
            rows[i] = jump(i == 19 ? 0 : i + 1);
        }
        CHECK.rewritten("all round", x, rows);
    }

    private static void dropsWhatCannotBeComeTo() {
        CHECK.rewritten("behind HALT and JUMP", program(zero(0, 4), halt(), set(1, 1), jump(2), set(1, 2), jump(0),
                add(0, 0, 0)),
                zero(0, 2), halt(), set(1, 2), jump(0));
        CHECK.rewritten("all but the first", program(halt(), halt(), set(0, 1)), halt());
        CHECK.rewritten("the way that is not taken", program(set(0, 1), zero(0, 3), halt(), set(1, 2)),
                set(0, 1), halt());
    }

    /** The JUMP at 3 was on the way before THREAD, and is not any more. */
    private static void dropsByWhatIsNow() {
        CHECK.rewritten("what is threaded over", program(zero(0, 3), set(1, 1), halt(), jump(5), halt(), set(1, 2)),
                zero(0, 3), set(1, 1), halt(), set(1, 2));
    }

    private static void comesBothWays() {
        CHECK.rewritten("on and back", program(jump(3), set(1, 1), halt(), zero(0, 1), set(1, 2), halt()),
                jump(3), set(1, 1), halt(), zero(0, 1), set(1, 2), halt());
    }

    private static void dropsAJumpToTheNext() {
        CHECK.rewritten("the first", program(jump(1), add(0, 0, 1)), add(0, 0, 1));
        CHECK.rewritten("one between", program(add(0, 0, 1), jump(2), zero(0, 1)), add(0, 0, 1), zero(0, 1));
    }

    private static void dropsAJumpOverWhatWent() {
        CHECK.rewritten("over what cannot be come to",
                program(add(0, 0, 0), jump(4), halt(), halt(), set(1, 1), jump(0)),
                add(0, 0, 0), set(1, 1), jump(0));
        CHECK.rewritten("over a ZERO that became a JUMP", program(set(0, 0), zero(0, 3), halt(), copy(1, 2)),
                set(0, 0), copy(1, 2));
    }

    /** Only JUMPs that go round show the order: from the first to the last, 0 and 1 would both go. */
    private static void dropsFromTheLast() {
        CHECK.rewritten("three round", program(jump(1), jump(2), jump(0)), jump(1), jump(0));
        CHECK.rewritten("four round", program(jump(1), jump(2), jump(3), jump(0)), jump(1), jump(0));
        CHECK.rewritten("two to the same", program(zero(0, 3), zero(1, 5), jump(7), set(1, 1), jump(7), set(1, 2),
                jump(7), add(0, 0, 1)),
                zero(0, 3), zero(1, 5), jump(6), set(1, 1), jump(6), set(1, 2), add(0, 0, 1));
        CHECK.rewritten("two that go", program(set(0, 0), zero(0, 2), zero(0, 3), copy(1, 2)), set(0, 0), copy(1, 2));
    }

    private static void leavesOtherJumps() {
        CHECK.rewritten("over what stays", program(zero(0, 3), zero(1, 4), jump(5), set(2, 1), set(2, 2), set(2, 3)),
                zero(0, 3), zero(1, 4), jump(5), set(2, 1), set(2, 2), set(2, 3));
        CHECK.rewritten("to itself", program(copy(0, 1), jump(1)), copy(0, 1), jump(1));
        CHECK.rewritten("to the one before", program(copy(0, 1), jump(0)), copy(0, 1), jump(0));
    }

    private static void dropsAJumpToTheEnd() {
        int[] ends = {3, 4, 39, 40};
        for (int end : ends) {
            CHECK.rewritten("to " + end, program(zero(0, 40), set(1, 1), jump(end)), zero(0, 2), set(1, 1));
        }
        CHECK.rewritten("none that can be come to", program(set(1, 1), jump(40), halt()), set(1, 1));
    }

    private static void leavesAJumpToTheEnd() {
        int[] ends = {3, 4, 39, 40};
        for (int end : ends) {
            CHECK.rewritten("to " + end, program(zero(0, 2), jump(end), set(1, 1)), zero(0, 2), jump(3), set(1, 1));
        }
    }

    /** By the words: the t of the JUMP at 3 is 4, which has gone, so it is not the first still there, which is 5. */
    private static void jumpsRoundOneAnother() {
        CHECK.rewritten("two round", program(jump(1), jump(0)), jump(0));
        CHECK.rewritten("three round", program(zero(0, 3), set(1, 1), halt(), jump(4), jump(5), jump(3)),
                zero(0, 3), set(1, 1), halt(), jump(4), jump(3));
    }

    private static void numbersInOrder() {
        CHECK.rewritten("as many go before it", program(jump(2), halt(), sub(0, 0, 1), zero(0, 7), jump(6), halt(),
                jump(2), copy(1, 2)),
                sub(0, 0, 1), zero(0, 3), jump(0), copy(1, 2));
        CHECK.rewritten("not in the order of coming", program(jump(4), set(1, 1), halt(), halt(), zero(0, 1),
                set(1, 2), halt()),
                jump(3), set(1, 1), halt(), zero(0, 1), set(1, 2), halt());
    }

    /** The t 2 is a JUMP that goes round and goes: behind it 3 is left. */
    private static void numbersWhatIsLeft() {
        CHECK.rewritten("behind it", program(zero(0, 2), halt(), jump(3), jump(2)), zero(0, 2), halt(), jump(2));
        CHECK.rewritten("at it", program(jump(1), zero(0, 3), halt(), set(0, 1)), zero(0, 2), halt(), set(0, 1));
    }

    private static void numbersTheEnd() {
        CHECK.rewritten("of a ZERO", program(zero(0, 40), halt(), halt()), zero(0, 2), halt());
        CHECK.rewritten("of a ZERO to the last one, which went", program(zero(0, 2), halt(), jump(3)),
                zero(0, 2), halt());
        CHECK.rewritten("of a JUMP", program(zero(0, 2), jump(40), halt(), set(0, 1)), zero(0, 2), jump(3), halt());
    }

    private static void howManyThereAre() {
        CHECK.due("of one", 1, program(halt()).rewrite());
        CHECK.due("of forty that stay", 40, programOf(40, zero(0, 40)).rewrite());
        CHECK.due("of forty of which one stays", 1, programOf(40, halt()).rewrite());
    }

    private static void perhapsNone() {
        CHECK.rewritten("of one", program(jump(1)));
        CHECK.rewritten("of four", program(jump(2), halt(), jump(3), jump(40)));
        CHECK.rewritten("of forty", programOf(40, jump(40)));
    }

    private static void theRunGoesOn() {
        BranchConstants x = program(set(4, 2), jump(2), copy(5, 4), halt());
        x.start(0, 1, 2, 3, 4);
        x.run(0, 2);
        CHECK.due("rewrite()", 3, x.rewrite());
        CHECK.stands("where it was", x, 0, 2, 2);
        CHECK.values("where it was", x, 0, 1, 2, 3, 4, 2, 0);
        CHECK.due("run(0, 9)", 2, x.run(0, 9));
        CHECK.values("ended", x, 0, 1, 2, 3, 4, 2, 2);
        x.rewrite();
        CHECK.stands("ended and rewritten again", x, 0, NONE, 4);
    }

    private static void theProgramStays() {
        BranchConstants x = program(set(0, 0), zero(0, 3), halt(), jump(40), copy(0, 1));
        CHECK.rewritten("shorter", x, set(0, 0));
        CHECK.code("as it was", x, 0, set(0, 0), zero(0, 3), halt(), jump(40), copy(0, 1));
        CHECK.due("as it was: reachedAll()", 3, x.reachedAll());
        CHECK.due("as it was: add", 6, x.add(HALT, 0, 0, 0));
    }

    private static void again() {
        BranchConstants x = program(set(0, 0), copy(1, 0));
        CHECK.rewritten("once", x, set(0, 0), set(1, 0));
        CHECK.rewritten("twice", x, set(0, 0), set(1, 0));
        x.change(0, SET, 0, 4, 0);
        CHECK.rewritten("changed", x, set(0, 4), set(1, 4));
        x.add(MUL, 2, 1, 0);
        CHECK.rewritten("one more", x, set(0, 4), set(1, 4), set(2, 16));
        x.change(0, JUMP, 0, 3, 0);
        CHECK.rewritten("shorter", x);
        x.change(0, COPY, 0, 5, 0);
        CHECK.rewritten("longer", x, copy(0, 5), copy(1, 0), mul(2, 1, 0));
    }

    private static void codeOfTheProgram() {
        BranchConstants x = program(add(1, 2, 3), set(5, MIN));
        CHECK.code("before rewriting", x, 0, add(1, 2, 3), set(5, MIN));
        x.rewrite();
        CHECK.code("rewritten", x, 0, add(1, 2, 3), set(5, MIN));
    }

    private static void codeOfTheRewritten() {
        BranchConstants x = program(set(5, MIN), jump(3), halt(), sub(1, 5, 3));
        x.rewrite();
        CHECK.code("the rewritten one", x, 1, set(5, MIN), sub(1, 5, 3));
        CHECK.code("the program beside it", x, 0, set(5, MIN), jump(3), halt(), sub(1, 5, 3));
    }

    /** What was folded had numbers that it needs no more. */
    private static void zeroForWhatIsNotNeeded() {
        BranchConstants x = program(set(5, 3), add(4, 5, 5), zero(5, 7), jump(1));
        CHECK.rewritten("folded", x, set(5, 3), set(4, 6), jump(1));
        BranchConstants y = new BranchConstants();
        y.add(JUMP, 5, 1, 5);
        y.add(ZERO, 5, 0, 5);
        y.add(HALT, 5, 5, 5);
        CHECK.code("given", y, 0, jump(1), zero(5, 0), halt());
    }
}
