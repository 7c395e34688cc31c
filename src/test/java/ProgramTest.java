/** Promises 1 to 4: a new object, add, change, clear. */
final class ProgramTest {
    private static final int SET = BranchConstants.SET;
    private static final int COPY = BranchConstants.COPY;
    private static final int ADD = BranchConstants.ADD;
    private static final int SUB = BranchConstants.SUB;
    private static final int MUL = BranchConstants.MUL;
    private static final int ZERO = BranchConstants.ZERO;
    private static final int JUMP = BranchConstants.JUMP;
    private static final int HALT = BranchConstants.HALT;
    private static final int MIN = Integer.MIN_VALUE;
    private static final int MAX = Integer.MAX_VALUE;
    private static final Check CHECK = new Check();

    public static void main(String[] args) {
        aNewObject();
        objectsAreApart();
        addKeepsWhatIsNeeded();
        addRefusesWrongNumbers();
        addRefusesTheFortyFirst();
        addThatThrowsChangesNothing();
        changeMakesAnother();
        changeRefuses();
        clearEmpties();
        eachChangeEndsRunsAndTheRewritten();
        CHECK.end();
    }

    private static void aNewObject() {
        BranchConstants x = new BranchConstants();
        CHECK.index("new: code(0, 0, 0)", () -> x.code(0, 0, 0));
        CHECK.state("new: code(1, 0, 0)", () -> x.code(1, 0, 0));
        CHECK.index("new: reached(0)", () -> x.reached(0));
        CHECK.due("new: reachedAll()", 0, x.reachedAll());
        CHECK.state("new: rewrite()", x::rewrite);
        for (int side = 0; side < 2; side++) {
            int s = side;
            CHECK.state("new: run", () -> x.run(s, 0));
            CHECK.state("new: place", () -> x.place(s));
            CHECK.state("new: value", () -> x.value(s, 0));
            CHECK.state("new: steps", () -> x.steps(s));
        }
        CHECK.state("new: start(1)", () -> x.start(1, 0, 0, 0, 0));
        CHECK.due("new: clear()", 0, x.clear());
    }

    private static void objectsAreApart() {
        BranchConstants x = Check.program(new int[] {SET, 0, 3});
        BranchConstants y = new BranchConstants();
        CHECK.due("another object: clear()", 0, y.clear());
        CHECK.due("the first object still: reachedAll()", 1, x.reachedAll());
    }

    private static void addKeepsWhatIsNeeded() {
        BranchConstants x = new BranchConstants();
        CHECK.due("add SET", 1, x.add(SET, 5, MIN, -1));
        CHECK.due("add SET", 2, x.add(SET, 0, MAX, 6));
        CHECK.due("add COPY", 3, x.add(COPY, 1, 5, -7));
        CHECK.due("add ADD", 4, x.add(ADD, 2, 0, 5));
        CHECK.due("add SUB", 5, x.add(SUB, 3, 5, 0));
        CHECK.due("add MUL", 6, x.add(MUL, 4, 4, 4));
        CHECK.due("add ZERO", 7, x.add(ZERO, 5, 40, MAX));
        CHECK.due("add ZERO", 8, x.add(ZERO, 0, 0, MIN));
        CHECK.due("add JUMP", 9, x.add(JUMP, 77, 40, 77));
        CHECK.due("add JUMP", 10, x.add(JUMP, -1, 0, -1));
        CHECK.due("add HALT", 11, x.add(HALT, 9, 99, 999));
        CHECK.code("added", x, 0,
                new int[] {SET, 5, MIN}, new int[] {SET, 0, MAX}, new int[] {COPY, 1, 5}, new int[] {ADD, 2, 0, 5},
                new int[] {SUB, 3, 5, 0}, new int[] {MUL, 4, 4, 4}, new int[] {ZERO, 5, 40},
                new int[] {ZERO, 0, 0}, new int[] {JUMP, 0, 40}, new int[] {JUMP, 0, 0}, new int[] {HALT});
    }

    private static final int[][] WRONG = {
        {-1, 0, 0, 0}, {8, 0, 0, 0}, {MIN, 0, 0, 0}, {MAX, 0, 0, 0},
        {SET, -1, 0, 0}, {SET, 6, 0, 0}, {SET, MAX, 0, 0}, {SET, MIN, 0, 0},
        {COPY, -1, 0, 0}, {COPY, 6, 0, 0}, {COPY, 0, -1, 0}, {COPY, 0, 6, 0},
        {ADD, -1, 0, 0}, {ADD, 6, 0, 0}, {ADD, 0, -1, 0}, {ADD, 0, 6, 0}, {ADD, 0, 0, -1}, {ADD, 0, 0, 6},
        {SUB, -1, 0, 0}, {SUB, 6, 0, 0}, {SUB, 0, -1, 0}, {SUB, 0, 6, 0}, {SUB, 0, 0, -1}, {SUB, 0, 0, 6},
        {MUL, -1, 0, 0}, {MUL, 6, 0, 0}, {MUL, 0, -1, 0}, {MUL, 0, 6, 0}, {MUL, 0, 0, -1}, {MUL, 0, 0, 6},
        {ZERO, -1, 0, 0}, {ZERO, 6, 0, 0}, {ZERO, 0, -1, 0}, {ZERO, 0, 41, 0},
        {JUMP, 0, -1, 0}, {JUMP, 0, 41, 0}, {JUMP, 0, MIN, 0}, {JUMP, 0, MAX, 0},
    };

    private static String text(int[] row) {
        return row[0] + ", " + row[1] + ", " + row[2] + ", " + row[3];
    }

    private static void addRefusesWrongNumbers() {
        BranchConstants x = Check.program(new int[] {HALT});
        for (int[] w : WRONG) {
            CHECK.argument("add(" + text(w) + ")", () -> x.add(w[0], w[1], w[2], w[3]));
        }
        CHECK.code("after wrong adds", x, 0, new int[] {HALT});
    }

    private static void addRefusesTheFortyFirst() {
        BranchConstants x = new BranchConstants();
        for (int i = 1; i <= 40; i++) {
            CHECK.due("add number " + i, i, x.add(SET, 0, i, 0));
        }
        CHECK.state("add number 41", () -> x.add(SET, 0, 41, 0));
        CHECK.state("add number 41 again", () -> x.add(HALT, 0, 0, 0));
        CHECK.argument("add number 41, wrong: IllegalArgument wins", () -> x.add(8, 0, 0, 0));
        CHECK.argument("add number 41, wrong variable: IllegalArgument wins", () -> x.add(SET, 6, 0, 0));
        CHECK.due("code of the fortieth", 40, x.code(0, 39, 2));
        CHECK.due("clear() of forty", 40, x.clear());
        CHECK.due("add after clear", 1, x.add(HALT, 0, 0, 0));
    }

    private static void addThatThrowsChangesNothing() {
        BranchConstants x = Check.program(new int[] {SET, 0, 3}, new int[] {HALT});
        x.rewrite();
        x.start(0, 1, 2, 3, 4);
        x.start(1, 1, 2, 3, 4);
        x.run(0, 1);
        CHECK.argument("wrong add", () -> x.add(SET, 6, 0, 0));
        CHECK.index("wrong change", () -> x.change(2, HALT, 0, 0, 0));
        CHECK.argument("wrong change", () -> x.change(1, SET, 6, 0, 0));
        CHECK.due("the run goes on", 1, x.place(0));
        CHECK.due("the run of the rewritten goes on", 0, x.place(1));
        CHECK.due("the rewritten is still there", SET, x.code(1, 0, 0));
        CHECK.code("nothing is changed", x, 0, new int[] {SET, 0, 3}, new int[] {HALT});
    }

    private static void changeMakesAnother() {
        BranchConstants x = Check.program(new int[] {MUL, 1, 2, 3}, new int[] {SET, 1, 1}, new int[] {HALT});
        CHECK.due("reached before the change", true, x.reached(1));
        x.change(0, HALT, 4, 4, 4);
        x.change(1, JUMP, 9, 7, 9);
        x.change(2, SUB, 5, 4, 3);
        CHECK.code("changed", x, 0, new int[] {HALT}, new int[] {JUMP, 0, 7}, new int[] {SUB, 5, 4, 3});
        CHECK.due("reached after the change", false, x.reached(1));
        x.change(0, ZERO, 2, 2, 9);
        CHECK.code("changed again", x, 0, new int[] {ZERO, 2, 2}, new int[] {JUMP, 0, 7}, new int[] {SUB, 5, 4, 3});
        CHECK.due("all reached now", 3, x.reachedAll());
    }

    private static void changeRefuses() {
        BranchConstants x = Check.program(new int[] {HALT}, new int[] {HALT});
        int[] indices = {-1, 2, 40, MIN, MAX};
        for (int i : indices) {
            CHECK.index("change(" + i + ")", () -> x.change(i, HALT, 0, 0, 0));
            CHECK.index("change(" + i + ") wrong: IndexOutOfBounds wins", () -> x.change(i, 8, 0, 0, 0));
        }
        for (int[] w : WRONG) {
            CHECK.argument("change(1, " + text(w) + ")", () -> x.change(1, w[0], w[1], w[2], w[3]));
        }
        CHECK.code("after wrong changes", x, 0, new int[] {HALT}, new int[] {HALT});
        BranchConstants empty = new BranchConstants();
        CHECK.index("change(0) of an empty program", () -> empty.change(0, HALT, 0, 0, 0));
    }

    private static void clearEmpties() {
        BranchConstants x = Check.program(new int[] {SET, 0, 1}, new int[] {JUMP, 0, 0}, new int[] {HALT});
        CHECK.due("clear()", 3, x.clear());
        CHECK.due("clear() again", 0, x.clear());
        CHECK.due("reachedAll() when empty", 0, x.reachedAll());
        CHECK.index("code when empty", () -> x.code(0, 0, 0));
        CHECK.state("rewrite() when empty", x::rewrite);
        CHECK.due("add after clear", 1, x.add(COPY, 1, 2, 0));
        CHECK.code("after clear", x, 0, new int[] {COPY, 1, 2});
    }

    private static void eachChangeEndsRunsAndTheRewritten() {
        for (int way = 0; way < 3; way++) {
            BranchConstants x = Check.program(new int[] {SET, 0, 3}, new int[] {HALT});
            x.rewrite();
            x.start(0, 1, 2, 3, 4);
            x.start(1, 1, 2, 3, 4);
            if (way == 0) {
                x.add(HALT, 0, 0, 0);
            } else if (way == 1) {
                x.change(1, JUMP, 0, 0, 0);
            } else {
                x.clear();
            }
            String name = "way " + way + ": ";
            CHECK.state(name + "code(1, 0, 0)", () -> x.code(1, 0, 0));
            CHECK.state(name + "start(1)", () -> x.start(1, 0, 0, 0, 0));
            for (int side = 0; side < 2; side++) {
                int s = side;
                CHECK.state(name + "run of side " + s, () -> x.run(s, 1));
                CHECK.state(name + "place of side " + s, () -> x.place(s));
                CHECK.state(name + "value of side " + s, () -> x.value(s, 0));
                CHECK.state(name + "steps of side " + s, () -> x.steps(s));
            }
        }
    }
}
