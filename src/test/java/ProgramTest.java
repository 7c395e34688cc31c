/** Promises 1 to 4: a new object, add, change, clear. Which calls are refused: RefusalTest. */
final class ProgramTest extends Rows {
    public static void main(String[] args) {
        CHECK.about("Promise 1: an empty program", ProgramTest::anEmptyProgram);
        CHECK.about("Promise 1: no run", ProgramTest::noRun);
        CHECK.about("Promise 1: each object for itself", ProgramTest::objectsAreApart);
        CHECK.about("Promise 2: an instruction more", ProgramTest::oneMore);
        CHECK.about("Promise 2: how many there are", ProgramTest::howManyThereAre);
        CHECK.about("Promise 2: v is one, w or t or k the next, x the third", ProgramTest::whichNumberIsWhich);
        CHECK.about("Promise 2: with what it needs of its numbers", ProgramTest::whatItNeeds);
        CHECK.about("Promise 2: t of JUMP, too: one counts for nothing there", ProgramTest::oneOfJump);
        CHECK.about("Promise 2: k may be any number", ProgramTest::anyNumber);
        CHECK.about("Promise 3: an instruction becomes another one", ProgramTest::becomesAnother);
        CHECK.about("Promise 3: from each kind to each", ProgramTest::fromEachKindToEach);
        CHECK.about("Promise 3: the first and the last of 40", ProgramTest::changeOfForty);
        CHECK.about("Promise 4: the program is empty again", ProgramTest::emptyAgain);
        CHECK.about("Promise 4: how many instructions it had", ProgramTest::howManyItHad);
        CHECK.about("Promises 2, 3, 4: runs of before are over", ProgramTest::runsAreOver);
        CHECK.end();
    }

    private static void anEmptyProgram() {
        BranchConstants x = new BranchConstants();
        CHECK.index("code(0, 0, 0)", () -> x.code(0, 0, 0));
        CHECK.index("reached(0)", () -> x.reached(0));
        CHECK.due("reachedAll()", 0, x.reachedAll());
        CHECK.state("rewrite()", x::rewrite);
        CHECK.state("code(1, 0, 0)", () -> x.code(1, 0, 0));
        CHECK.due("clear()", 0, x.clear());
    }

    private static void noRun() {
        BranchConstants x = new BranchConstants();
        for (int side = 0; side < 2; side++) {
            int s = side;
            CHECK.state("run(" + s + ", 0)", () -> x.run(s, 0));
            CHECK.state("place(" + s + ")", () -> x.place(s));
            CHECK.state("value(" + s + ", 0)", () -> x.value(s, 0));
            CHECK.state("steps(" + s + ")", () -> x.steps(s));
        }
    }

    private static void objectsAreApart() {
        BranchConstants x = program(set(0, 3), halt());
        x.rewrite();
        x.start(0, 1, 1, 1, 1);
        BranchConstants y = new BranchConstants();
        CHECK.due("the other: clear()", 0, y.clear());
        CHECK.state("the other: place(0)", () -> y.place(0));
        CHECK.state("the other: code(1, 0, 0)", () -> y.code(1, 0, 0));
        CHECK.due("the first: reachedAll()", 2, x.reachedAll());
        CHECK.due("the first: place(0)", 0, x.place(0));
        CHECK.due("the first: code(1, 0, 2)", 3, x.code(1, 0, 2));
    }

    private static void oneMore() {
        BranchConstants x = program(set(0, 1));
        CHECK.code("one", x, 0, set(0, 1));
        x.add(COPY, 1, 0, 0);
        CHECK.code("two", x, 0, set(0, 1), copy(1, 0));
        x.add(SET, 0, 1, 0);
        CHECK.code("the same again", x, 0, set(0, 1), copy(1, 0), set(0, 1));
    }

    private static void howManyThereAre() {
        BranchConstants x = new BranchConstants();
        for (int i = 1; i <= 40; i++) {
            CHECK.due("add", i, x.add(i % 8, 0, 0, 0));
        }
        x.clear();
        CHECK.due("add after clear", 1, x.add(HALT, 0, 0, 0));
        CHECK.argument("add that is refused", () -> x.add(8, 0, 0, 0));
        CHECK.due("add after one that is refused", 2, x.add(HALT, 0, 0, 0));
    }

    private static void whichNumberIsWhich() {
        BranchConstants x = new BranchConstants();
        x.add(SET, 1, 2, 3);
        x.add(COPY, 1, 2, 3);
        x.add(ADD, 1, 2, 3);
        x.add(SUB, 1, 2, 3);
        x.add(MUL, 1, 2, 3);
        x.add(ZERO, 1, 2, 3);
        x.add(JUMP, 1, 2, 3);
        x.add(HALT, 1, 2, 3);
        CHECK.code("numbers", x, 0, set(1, 2), copy(1, 2), add(1, 2, 3), sub(1, 2, 3), mul(1, 2, 3), zero(1, 2),
                jump(2), halt());
    }

    /** A number that the kind does not need may be any, and be no variable and no t. */
    private static void whatItNeeds() {
        int[] any = {-1, 6, 41, MIN, MAX};
        for (int n : any) {
            BranchConstants x = new BranchConstants();
            x.add(SET, 5, 40, n);
            x.add(COPY, 5, 0, n);
            x.add(ZERO, 0, 40, n);
            x.add(JUMP, n, 0, n);
            x.add(HALT, n, n, n);
            CHECK.code("beside " + n, x, 0, set(5, 40), copy(5, 0), zero(0, 40), jump(0), halt());
        }
    }

    private static void oneOfJump() {
        int[] ones = {-1, 0, 5, 6, 41, MIN, MAX};
        for (int one : ones) {
            BranchConstants x = new BranchConstants();
            CHECK.due("JUMP with one " + one, 1, x.add(JUMP, one, 2, 0));
            CHECK.code("JUMP with one " + one, x, 0, jump(2));
            CHECK.argument("JUMP with one 2 and t 41", () -> x.add(JUMP, 2, 41, 2));
        }
    }

    private static void anyNumber() {
        int[] numbers = {MIN, -1, 0, 6, 41, MAX};
        for (int k : numbers) {
            BranchConstants x = new BranchConstants();
            CHECK.due("SET 0 " + k, 1, x.add(SET, 0, k, 0));
            CHECK.due("its k", k, x.code(0, 0, 2));
        }
    }

    private static void becomesAnother() {
        BranchConstants x = program(mul(1, 2, 3), set(1, 1), halt());
        CHECK.due("before: reached(1)", true, x.reached(1));
        x.change(0, HALT, 4, 4, 4);
        CHECK.code("the first", x, 0, halt(), set(1, 1), halt());
        CHECK.due("the first: reached(1)", false, x.reached(1));
        x.change(2, SUB, 5, 4, 3);
        CHECK.code("the last", x, 0, halt(), set(1, 1), sub(5, 4, 3));
        x.change(1, JUMP, 9, 7, 9);
        CHECK.code("the one between", x, 0, halt(), jump(7), sub(5, 4, 3));
        x.change(0, ZERO, 2, 2, 9);
        CHECK.code("the first again", x, 0, zero(2, 2), jump(7), sub(5, 4, 3));
        CHECK.due("the first again: reachedAll()", 3, x.reachedAll());
        CHECK.due("still three", 4, x.add(HALT, 0, 0, 0));
    }

    /** Nothing of the old instruction is left in the new one. */
    private static void fromEachKindToEach() {
        int[][] olds = {set(5, 4), copy(5, 4), add(5, 4, 3), sub(5, 4, 3), mul(5, 4, 3), zero(5, 4), jump(4), halt()};
        int[][] news = {set(1, 2), copy(1, 2), add(1, 2, 3), sub(1, 2, 3), mul(1, 2, 3), zero(1, 2), jump(2), halt()};
        for (int[] from : olds) {
            for (int kind = 0; kind < 8; kind++) {
                BranchConstants x = program(from);
                x.change(0, kind, 1, 2, 3);
                CHECK.code("from kind " + from[0], x, 0, news[kind]);
            }
        }
    }

    private static void changeOfForty() {
        BranchConstants x = programOf(40, set(0, 1));
        x.change(0, COPY, 1, 2, 0);
        x.change(39, MUL, 3, 4, 5);
        CHECK.due("the first", COPY, x.code(0, 0, 0));
        CHECK.due("the second", SET, x.code(0, 1, 0));
        CHECK.due("the last but one", SET, x.code(0, 38, 0));
        CHECK.due("the last", MUL, x.code(0, 39, 0));
        CHECK.due("still forty", 40, x.clear());
    }

    private static void emptyAgain() {
        BranchConstants x = program(set(0, 1), jump(0), halt());
        x.rewrite();
        x.clear();
        CHECK.index("code(0, 0, 0)", () -> x.code(0, 0, 0));
        CHECK.index("reached(0)", () -> x.reached(0));
        CHECK.index("known(0, 0)", () -> x.known(0, 0));
        CHECK.index("change(0, ..)", () -> x.change(0, HALT, 0, 0, 0));
        CHECK.due("reachedAll()", 0, x.reachedAll());
        CHECK.state("rewrite()", x::rewrite);
        x.add(COPY, 1, 2, 0);
        CHECK.code("one after that", x, 0, copy(1, 2));
        CHECK.due("one after that: known(0, 0)", VARIES, x.known(0, 0));
    }

    private static void howManyItHad() {
        for (int count = 0; count <= 40; count++) {
            BranchConstants x = programOf(count, halt());
            CHECK.due("clear()", count, x.clear());
            CHECK.due("clear() again", 0, x.clear());
        }
    }

    private static void runsAreOver() {
        for (int way = 0; way < 4; way++) {
            BranchConstants x = program(set(0, 3), halt());
            x.rewrite();
            x.start(0, 1, 2, 3, 4);
            x.start(1, 1, 2, 3, 4);
            if (way == 0) {
                x.add(HALT, 0, 0, 0);
            } else if (way == 1) {
                x.change(1, JUMP, 0, 0, 0);
            } else if (way == 2) {
                x.change(1, HALT, 0, 0, 0);
            } else {
                x.clear();
            }
            for (int side = 0; side < 2; side++) {
                int s = side;
                CHECK.state("way " + way + ": run(" + s + ", 1)", () -> x.run(s, 1));
                CHECK.state("way " + way + ": place(" + s + ")", () -> x.place(s));
                CHECK.state("way " + way + ": value(" + s + ", 0)", () -> x.value(s, 0));
                CHECK.state("way " + way + ": steps(" + s + ")", () -> x.steps(s));
            }
        }
    }
}
