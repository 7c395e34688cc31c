import java.util.function.Supplier;

/**
 * Every exception that a call lists: the last number that is allowed and the first that is not, on either side;
 * that a refused call changes nothing; and which exception wins where more than one applies.
 */
final class RefusalTest extends Rows {
    private static final String ARGUMENT = "throws.IllegalArgumentException";
    private static final String STATE = "throws.IllegalStateException";
    private static final String INDEX = "throws.IndexOutOfBoundsException";

    public static void main(String[] args) {
        addAndChange();
        analysis();
        rewriteAndCode();
        runs();
        noTrace();
        theFirstOneWins();
        CHECK.end();
    }

    private static void addAndChange() {
        CHECK.about("Promise 2: IllegalArgument: the kind is not 0 .. 7", RefusalTest::addKind);
        CHECK.about("Promise 2: or a variable that it needs is none", RefusalTest::addVariable);
        CHECK.about("Promise 2: or a t that it needs is none", RefusalTest::addT);
        CHECK.about("Promise 2: IllegalState: there are 40", RefusalTest::addAs41);
        CHECK.about("Promise 3: IndexOutOfBounds: there is none such", RefusalTest::changeIndex);
        CHECK.about("Promise 3: IllegalArgument, as with add: the kind", RefusalTest::changeKind);
        CHECK.about("Promise 3: IllegalArgument, as with add: a variable", RefusalTest::changeVariable);
        CHECK.about("Promise 3: IllegalArgument, as with add: a t", RefusalTest::changeT);
        CHECK.about("Promise 3: a change of 40 is not refused", RefusalTest::changeOf40);
        CHECK.about("Promise 4: clear is never refused", RefusalTest::clearAlways);
    }

    private static void analysis() {
        CHECK.about("Promise 5: IndexOutOfBounds: there is none such", RefusalTest::reachedIndex);
        CHECK.about("Promise 6: reachedAll is never refused", RefusalTest::reachedAllAlways);
        CHECK.about("Promise 7: IndexOutOfBounds: no such instruction", RefusalTest::knownIndex);
        CHECK.about("Promise 7: IndexOutOfBounds: no such variable", RefusalTest::knownVariable);
        CHECK.about("Promise 8: IndexOutOfBounds: no such instruction", RefusalTest::constantIndex);
        CHECK.about("Promise 8: IndexOutOfBounds: no such variable", RefusalTest::constantVariable);
    }

    private static void rewriteAndCode() {
        CHECK.about("Promise 9: IllegalState: the program is empty", RefusalTest::rewriteEmpty);
        CHECK.about("Promise 10: IllegalState: side 1, without a rewritten program", RefusalTest::codeWithoutRewritten);
        CHECK.about("Promise 10: IndexOutOfBounds: no such side", RefusalTest::codeSide);
        CHECK.about("Promise 10: IndexOutOfBounds: no such instruction", RefusalTest::codeIndex);
        CHECK.about("Promise 10: IndexOutOfBounds: no such what", RefusalTest::codeWhat);
    }

    private static void runs() {
        CHECK.about("Promise 11: IndexOutOfBounds: there is no such side", RefusalTest::startSide);
        CHECK.about("Promise 11: IllegalState: side 1, without a rewritten program", RefusalTest::startWithoutRewritten);
        CHECK.about("Promise 12: IndexOutOfBounds", RefusalTest::runSide);
        CHECK.about("Promise 12: IllegalArgument: n is not 0 .. 10,000", RefusalTest::runNumber);
        CHECK.about("Promise 12: IllegalState: it was not started", RefusalTest::runUnstarted);
        CHECK.about("Promise 13: IndexOutOfBounds", RefusalTest::placeSide);
        CHECK.about("Promise 13: IllegalState", RefusalTest::placeUnstarted);
        CHECK.about("Promise 14: IndexOutOfBounds", RefusalTest::valueSide);
        CHECK.about("Promise 14: IndexOutOfBounds, also if there is no such variable", RefusalTest::valueVariable);
        CHECK.about("Promise 14: IllegalState", RefusalTest::valueUnstarted);
        CHECK.about("Promise 15: IndexOutOfBounds", RefusalTest::stepsSide);
        CHECK.about("Promise 15: IllegalState", RefusalTest::stepsUnstarted);
    }

    private static void noTrace() {
        String name = "A call that throws changes nothing: ";
        CHECK.about(name + "add, IllegalArgument", RefusalTest::addWrongChangesNothing);
        CHECK.about(name + "add, IllegalState", RefusalTest::addAs41ChangesNothing);
        CHECK.about(name + "change", RefusalTest::changeChangesNothing);
        CHECK.about(name + "reached, known, constant", RefusalTest::askingChangesNothing);
        CHECK.about(name + "rewrite", RefusalTest::rewriteChangesNothing);
        CHECK.about(name + "code", RefusalTest::codeChangesNothing);
        CHECK.about(name + "start", RefusalTest::startChangesNothing);
        CHECK.about(name + "run", RefusalTest::runChangesNothing);
        CHECK.about(name + "place, value, steps", RefusalTest::lookingChangesNothing);
    }

    private static void theFirstOneWins() {
        String name = "The first one wins: ";
        CHECK.about(name + "add, IllegalArgument before IllegalState", RefusalTest::addWins);
        CHECK.about(name + "change, IndexOutOfBounds before IllegalArgument", RefusalTest::changeWins);
        CHECK.about(name + "code, IllegalState before IndexOutOfBounds", RefusalTest::codeWins);
        CHECK.about(name + "start, IndexOutOfBounds before IllegalState", RefusalTest::startWins);
        CHECK.about(name + "run, IndexOutOfBounds before IllegalArgument", RefusalTest::runIndexWins);
        CHECK.about(name + "run, IllegalArgument before IllegalState", RefusalTest::runArgumentWins);
        CHECK.about(name + "place, IndexOutOfBounds before IllegalState", RefusalTest::placeWins);
        CHECK.about(name + "value, IndexOutOfBounds before IllegalState", RefusalTest::valueWins);
        CHECK.about(name + "steps, IndexOutOfBounds before IllegalState", RefusalTest::stepsWins);
    }

    // Pasts: each makes an object anew, always in the same way.

    private static BranchConstants fresh() {
        return new BranchConstants();
    }

    /** An empty program whose run has begun and so ended. */
    private static BranchConstants emptyStarted() {
        BranchConstants x = new BranchConstants();
        x.start(0, 1, 2, 3, 4);
        return x;
    }

    private static BranchConstants unstarted() {
        return program(set(4, 3), zero(4, 3), add(5, 0, 4), jump(4), sub(0, 0, 1), halt());
    }

    private static BranchConstants started() {
        BranchConstants x = unstarted();
        x.start(0, 1, 2, 3, 4);
        x.run(0, 3);
        return x;
    }

    /** Six instructions, rewritten four; both runs are under way. */
    private static BranchConstants whole() {
        BranchConstants x = unstarted();
        x.rewrite();
        x.start(0, 1, 2, 3, 4);
        x.start(1, 5, 6, 7, 8);
        x.run(0, 3);
        x.run(1, 1);
        return x;
    }

    /** All that whole has, but the program was changed since. */
    private static BranchConstants changed() {
        BranchConstants x = whole();
        x.change(0, SET, 4, 0, 0);
        return x;
    }

    private static BranchConstants rewrittenToNone() {
        BranchConstants x = program(jump(1));
        x.rewrite();
        x.start(0, 1, 2, 3, 4);
        x.start(1, 5, 6, 7, 8);
        return x;
    }

    private static BranchConstants full() {
        BranchConstants x = program(set(4, 3));
        for (int i = 1; i < 40; i++) {
            x.add(ADD, i % 4, (i + 1) % 4, 4);
        }
        x.rewrite();
        x.start(0, 1, 2, 3, 4);
        x.start(1, 5, 6, 7, 8);
        x.run(0, 20);
        x.run(1, 30);
        return x;
    }

    private static BranchConstants fullButOne() {
        return programOf(39, halt());
    }

    /** Each of the calls is asked of an object of its own. */
    private static void refused(String want, Supplier<BranchConstants> past, Call... calls) {
        for (Call call : calls) {
            CHECK.dueText(call.toString(), want, call.answer(past.get()));
        }
    }

    private static void allowed(Supplier<BranchConstants> past, Call... calls) {
        for (Call call : calls) {
            CHECK.due(call + " is refused", false, call.answer(past.get()).startsWith("throws"));
        }
    }

    /** The call is refused, and then the object tells the same as a twin that was not asked. */
    private static void changesNothing(String want, Supplier<BranchConstants> past, Call... calls) {
        for (Call call : calls) {
            BranchConstants x = past.get();
            CHECK.dueText(call.toString(), want, call.answer(x));
            CHECK.dueText("after " + call + " all that can be asked", Whole.of(past.get()), Whole.of(x));
        }
    }

    private static Call call(String name, int... numbers) {
        return new Call(name, numbers);
    }

    /** The calls that have a number put in at a place. */
    private static Call[] with(Call call, int at, int... numbers) {
        Call[] made = new Call[numbers.length];
        for (int n = 0; n < numbers.length; n++) {
            int[] all = call.numbers().clone();
            all[at] = numbers[n];
            made[n] = new Call(call.name(), all);
        }
        return made;
    }

    /** From first to last is allowed, all else is refused. */
    private static void range(String want, Supplier<BranchConstants> past, Call call, int at, int first, int last) {
        allowed(past, with(call, at, first, last));
        refused(want, past, with(call, at, first - 1, last + 1, MIN, MAX));
    }

    /** Where each kind has its variables among one, two, three, and where its t. */
    private static final int[][] VARIABLES = {{0}, {0, 1}, {0, 1, 2}, {0, 1, 2}, {0, 1, 2}, {0}, {}, {}};
    private static final int[] T_KINDS = {ZERO, JUMP};

    private static void addKind() {
        range(ARGUMENT, RefusalTest::fresh, call("add", 0, 0, 0, 0), 0, 0, 7);
        range(ARGUMENT, RefusalTest::whole, call("add", 0, 5, 5, 5), 0, 0, 7);
    }

    private static void addVariable() {
        for (int kind = 0; kind < 8; kind++) {
            for (int at : VARIABLES[kind]) {
                range(ARGUMENT, RefusalTest::fresh, call("add", kind, 3, 3, 3), at + 1, 0, 5);
            }
        }
    }

    /** Whatever the number of instructions is: t is not held against it. */
    private static void addT() {
        for (int kind : T_KINDS) {
            range(ARGUMENT, RefusalTest::fresh, call("add", kind, 0, 0, 0), 2, 0, 40);
            range(ARGUMENT, RefusalTest::fullButOne, call("add", kind, 0, 0, 0), 2, 0, 40);
        }
    }

    private static void addAs41() {
        for (int kind = 0; kind < 8; kind++) {
            allowed(RefusalTest::fullButOne, call("add", kind, 0, 0, 0));
            refused(STATE, RefusalTest::full, call("add", kind, 0, 0, 0));
        }
    }

    private static void changeIndex() {
        range(INDEX, RefusalTest::whole, call("change", 0, HALT, 0, 0, 0), 0, 0, 5);
        range(INDEX, RefusalTest::rewrittenToNone, call("change", 0, HALT, 0, 0, 0), 0, 0, 0);
        range(INDEX, RefusalTest::fullButOne, call("change", 0, HALT, 0, 0, 0), 0, 0, 38);
        range(INDEX, RefusalTest::full, call("change", 0, HALT, 0, 0, 0), 0, 0, 39);
        refused(INDEX, RefusalTest::fresh, call("change", 0, HALT, 0, 0, 0), call("change", -1, HALT, 0, 0, 0));
    }

    private static void changeKind() {
        range(ARGUMENT, RefusalTest::whole, call("change", 5, 0, 0, 0, 0), 1, 0, 7);
    }

    private static void changeVariable() {
        for (int kind = 0; kind < 8; kind++) {
            for (int at : VARIABLES[kind]) {
                range(ARGUMENT, RefusalTest::whole, call("change", 0, kind, 3, 3, 3), at + 2, 0, 5);
            }
        }
    }

    private static void changeT() {
        for (int kind : T_KINDS) {
            range(ARGUMENT, RefusalTest::whole, call("change", 5, kind, 0, 0, 0), 3, 0, 40);
        }
    }

    private static void changeOf40() {
        for (int kind = 0; kind < 8; kind++) {
            allowed(RefusalTest::full, call("change", 39, kind, 0, 0, 0));
        }
    }

    private static void clearAlways() {
        allowed(RefusalTest::fresh, call("clear"));
        allowed(RefusalTest::emptyStarted, call("clear"));
        allowed(RefusalTest::whole, call("clear"));
        allowed(RefusalTest::full, call("clear"));
    }

    /** The number of an instruction, of none up to forty. */
    private static void instruction(Call call, int at) {
        refused(INDEX, RefusalTest::fresh, with(call, at, -1, 0, 1, MIN, MAX));
        range(INDEX, RefusalTest::rewrittenToNone, call, at, 0, 0);
        range(INDEX, RefusalTest::unstarted, call, at, 0, 5);
        range(INDEX, RefusalTest::whole, call, at, 0, 5);
        range(INDEX, RefusalTest::full, call, at, 0, 39);
    }

    private static void reachedIndex() {
        instruction(call("reached", 0), 0);
    }

    private static void reachedAllAlways() {
        allowed(RefusalTest::fresh, call("reachedAll"));
        allowed(RefusalTest::emptyStarted, call("reachedAll"));
        allowed(RefusalTest::full, call("reachedAll"));
    }

    private static void knownIndex() {
        instruction(call("known", 0, 5), 0);
    }

    /** Also before an instruction that is not reached, and beside one that there is not. */
    private static void knownVariable() {
        range(INDEX, RefusalTest::unstarted, call("known", 0, 0), 1, 0, 5);
        range(INDEX, RefusalTest::unstarted, call("known", 5, 0), 1, 0, 5);
        range(INDEX, RefusalTest::fullButOne, call("known", 38, 0), 1, 0, 5);
        refused(INDEX, RefusalTest::unstarted, call("known", 6, 6), call("known", -1, -1), call("known", 0, 11));
    }

    private static void constantIndex() {
        instruction(call("constant", 0, 5), 0);
    }

    private static void constantVariable() {
        range(INDEX, RefusalTest::unstarted, call("constant", 0, 0), 1, 0, 5);
        range(INDEX, RefusalTest::unstarted, call("constant", 5, 0), 1, 0, 5);
        range(INDEX, RefusalTest::fullButOne, call("constant", 38, 0), 1, 0, 5);
        refused(INDEX, RefusalTest::unstarted, call("constant", 6, 6), call("constant", -1, -1), call("constant", 0, 11));
    }

    private static BranchConstants cleared() {
        BranchConstants x = whole();
        x.clear();
        return x;
    }

    private static void rewriteEmpty() {
        refused(STATE, RefusalTest::fresh, call("rewrite"));
        refused(STATE, RefusalTest::emptyStarted, call("rewrite"));
        refused(STATE, RefusalTest::cleared, call("rewrite"));
        allowed(RefusalTest::rewrittenToNone, call("rewrite"));
        allowed(RefusalTest::unstarted, call("rewrite"));
        allowed(RefusalTest::full, call("rewrite"));
    }

    private static void codeWithoutRewritten() {
        refused(STATE, RefusalTest::fresh, call("code", 1, 0, 0));
        refused(STATE, RefusalTest::unstarted, call("code", 1, 0, 0));
        refused(STATE, RefusalTest::changed, call("code", 1, 0, 0));
        refused(STATE, RefusalTest::cleared, call("code", 1, 0, 0));
        allowed(RefusalTest::unstarted, call("code", 0, 0, 0));
        allowed(RefusalTest::whole, call("code", 1, 0, 0));
    }

    private static void codeSide() {
        range(INDEX, RefusalTest::whole, call("code", 0, 0, 0), 0, 0, 1);
        refused(INDEX, RefusalTest::unstarted, with(call("code", 0, 0, 0), 0, -1, 2, MIN, MAX));
    }

    /** The rewritten one is shorter: each side by its own number of instructions. */
    private static void codeIndex() {
        range(INDEX, RefusalTest::whole, call("code", 0, 0, 0), 1, 0, 5);
        range(INDEX, RefusalTest::whole, call("code", 1, 0, 0), 1, 0, 3);
        range(INDEX, RefusalTest::full, call("code", 0, 0, 3), 1, 0, 39);
        range(INDEX, RefusalTest::full, call("code", 1, 0, 3), 1, 0, 39);
        range(INDEX, RefusalTest::rewrittenToNone, call("code", 0, 0, 0), 1, 0, 0);
        refused(INDEX, RefusalTest::rewrittenToNone, with(call("code", 1, 0, 0), 1, -1, 0, 1));
        refused(INDEX, RefusalTest::fresh, with(call("code", 0, 0, 0), 1, -1, 0, 1));
    }

    private static void codeWhat() {
        range(INDEX, RefusalTest::whole, call("code", 0, 0, 0), 2, 0, 3);
        range(INDEX, RefusalTest::whole, call("code", 1, 3, 0), 2, 0, 3);
        range(INDEX, RefusalTest::unstarted, call("code", 0, 5, 0), 2, 0, 3);
    }

    private static void startSide() {
        range(INDEX, RefusalTest::whole, call("start", 0, 0, 0, 0, 0), 0, 0, 1);
        refused(INDEX, RefusalTest::fresh, with(call("start", 0, 0, 0, 0, 0), 0, -1, 2, MIN, MAX));
    }

    private static void startWithoutRewritten() {
        Call call = call("start", 1, 0, 0, 0, 0);
        refused(STATE, RefusalTest::fresh, call);
        refused(STATE, RefusalTest::unstarted, call);
        refused(STATE, RefusalTest::changed, call);
        refused(STATE, RefusalTest::cleared, call);
        allowed(RefusalTest::whole, call);
        allowed(RefusalTest::rewrittenToNone, call);
        allowed(RefusalTest::fresh, call("start", 0, 0, 0, 0, 0));
    }

    private static void runSide() {
        range(INDEX, RefusalTest::whole, call("run", 0, 1), 0, 0, 1);
    }

    private static void runNumber() {
        range(ARGUMENT, RefusalTest::whole, call("run", 0, 0), 1, 0, 10000);
        range(ARGUMENT, RefusalTest::whole, call("run", 1, 0), 1, 0, 10000);
        range(ARGUMENT, RefusalTest::rewrittenToNone, call("run", 1, 0), 1, 0, 10000);
        range(ARGUMENT, RefusalTest::emptyStarted, call("run", 0, 0), 1, 0, 10000);
    }

    /** Where side 0 was not started, or not since a change; where side 1 was not, or not since a change. */
    private static void unstarted(Call side0, Call side1) {
        refused(STATE, RefusalTest::fresh, side0, side1);
        refused(STATE, RefusalTest::unstarted, side0, side1);
        refused(STATE, RefusalTest::changed, side0, side1);
        refused(STATE, RefusalTest::cleared, side0, side1);
        refused(STATE, RefusalTest::started, side1);
        refused(STATE, RefusalTest::emptyStarted, side1);
        allowed(RefusalTest::started, side0);
        allowed(RefusalTest::emptyStarted, side0);
        allowed(RefusalTest::whole, side0, side1);
        allowed(RefusalTest::rewrittenToNone, side0, side1);
    }

    private static void runUnstarted() {
        unstarted(call("run", 0, 0), call("run", 1, 0));
        unstarted(call("run", 0, 10000), call("run", 1, 10000));
    }

    private static void placeSide() {
        range(INDEX, RefusalTest::whole, call("place", 0), 0, 0, 1);
    }

    private static void placeUnstarted() {
        unstarted(call("place", 0), call("place", 1));
    }

    private static void valueSide() {
        range(INDEX, RefusalTest::whole, call("value", 0, 5), 0, 0, 1);
    }

    private static void valueVariable() {
        range(INDEX, RefusalTest::whole, call("value", 0, 0), 1, 0, 5);
        range(INDEX, RefusalTest::whole, call("value", 1, 0), 1, 0, 5);
        range(INDEX, RefusalTest::emptyStarted, call("value", 0, 0), 1, 0, 5);
    }

    private static void valueUnstarted() {
        unstarted(call("value", 0, 0), call("value", 1, 0));
        unstarted(call("value", 0, 5), call("value", 1, 5));
    }

    private static void stepsSide() {
        range(INDEX, RefusalTest::whole, call("steps", 0), 0, 0, 1);
    }

    private static void stepsUnstarted() {
        unstarted(call("steps", 0), call("steps", 1));
    }

    private static void addWrongChangesNothing() {
        Call[] calls = {call("add", -1, 0, 0, 0), call("add", 8, 0, 0, 0), call("add", SET, 6, 0, 0),
            call("add", COPY, 0, 6, 0), call("add", ADD, 0, 0, 6), call("add", SUB, 0, -1, 0),
            call("add", MUL, -1, 0, 0), call("add", ZERO, 0, 41, 0), call("add", JUMP, 0, -1, 0)};
        changesNothing(ARGUMENT, RefusalTest::fresh, calls);
        changesNothing(ARGUMENT, RefusalTest::emptyStarted, calls);
        changesNothing(ARGUMENT, RefusalTest::started, calls);
        changesNothing(ARGUMENT, RefusalTest::whole, calls);
        changesNothing(ARGUMENT, RefusalTest::full, calls);
    }

    private static void addAs41ChangesNothing() {
        changesNothing(STATE, RefusalTest::full, call("add", HALT, 0, 0, 0), call("add", SET, 4, 9, 0),
                call("add", JUMP, 0, 40, 0));
    }

    private static void changeChangesNothing() {
        changesNothing(INDEX, RefusalTest::fresh, call("change", 0, HALT, 0, 0, 0));
        changesNothing(INDEX, RefusalTest::emptyStarted, call("change", 0, HALT, 0, 0, 0));
        changesNothing(INDEX, RefusalTest::whole, call("change", 6, HALT, 0, 0, 0), call("change", -1, HALT, 0, 0, 0),
                call("change", 39, SET, 0, 0, 0));
        changesNothing(INDEX, RefusalTest::full, call("change", 40, HALT, 0, 0, 0), call("change", -1, SET, 0, 0, 0));
        changesNothing(ARGUMENT, RefusalTest::whole, call("change", 0, 8, 0, 0, 0), call("change", 5, -1, 0, 0, 0),
                call("change", 0, SET, 6, 0, 0), call("change", 1, COPY, 0, -1, 0), call("change", 2, ADD, 0, 0, 6),
                call("change", 3, ZERO, 0, 41, 0), call("change", 4, JUMP, 0, -1, 0));
        changesNothing(ARGUMENT, RefusalTest::full, call("change", 39, 8, 0, 0, 0), call("change", 0, MUL, 0, 0, 6));
    }

    private static void askingChangesNothing() {
        changesNothing(INDEX, RefusalTest::emptyStarted, call("reached", 0), call("known", 0, 0), call("constant", 0, 0));
        changesNothing(INDEX, RefusalTest::whole, call("reached", 6), call("reached", -1), call("known", 6, 0),
                call("known", 0, 6), call("constant", -1, 0), call("constant", 0, -1));
    }

    private static void rewriteChangesNothing() {
        changesNothing(STATE, RefusalTest::fresh, call("rewrite"));
        changesNothing(STATE, RefusalTest::emptyStarted, call("rewrite"));
        changesNothing(STATE, RefusalTest::cleared, call("rewrite"));
    }

    private static void codeChangesNothing() {
        changesNothing(STATE, RefusalTest::started, call("code", 1, 0, 0));
        changesNothing(STATE, RefusalTest::changed, call("code", 1, 0, 0));
        changesNothing(INDEX, RefusalTest::whole, call("code", 2, 0, 0), call("code", 0, 6, 0), call("code", 1, 4, 0),
                call("code", 1, 0, 4), call("code", 0, 0, -1));
    }

    private static void startChangesNothing() {
        changesNothing(INDEX, RefusalTest::fresh, call("start", 2, 9, 9, 9, 9));
        changesNothing(INDEX, RefusalTest::whole, call("start", -1, 9, 9, 9, 9), call("start", 2, 9, 9, 9, 9));
        changesNothing(STATE, RefusalTest::started, call("start", 1, 9, 9, 9, 9));
        changesNothing(STATE, RefusalTest::changed, call("start", 1, 9, 9, 9, 9));
    }

    private static void runChangesNothing() {
        changesNothing(INDEX, RefusalTest::whole, call("run", -1, 1), call("run", 2, 1));
        changesNothing(ARGUMENT, RefusalTest::whole, call("run", 0, -1), call("run", 0, 10001), call("run", 1, -1),
                call("run", 1, 10001));
        changesNothing(STATE, RefusalTest::unstarted, call("run", 0, 1), call("run", 1, 1));
        changesNothing(STATE, RefusalTest::started, call("run", 1, 1));
        changesNothing(STATE, RefusalTest::changed, call("run", 0, 1), call("run", 1, 1));
    }

    private static void lookingChangesNothing() {
        changesNothing(INDEX, RefusalTest::whole, call("place", 2), call("steps", -1), call("value", 2, 0),
                call("value", 0, 6), call("value", 1, -1));
        changesNothing(STATE, RefusalTest::started, call("place", 1), call("steps", 1), call("value", 1, 0));
        changesNothing(STATE, RefusalTest::changed, call("place", 0), call("steps", 0), call("value", 0, 0));
    }

    private static void addWins() {
        refused(ARGUMENT, RefusalTest::full, call("add", 8, 0, 0, 0), call("add", -1, 0, 0, 0),
                call("add", SET, 6, 0, 0), call("add", COPY, 0, -1, 0), call("add", ADD, 0, 0, 6),
                call("add", ZERO, 0, 41, 0), call("add", JUMP, 0, -1, 0));
        refused(STATE, RefusalTest::full, call("add", JUMP, 6, 40, 6), call("add", HALT, 9, 99, 9));
    }

    private static void changeWins() {
        Call[] calls = {call("change", 6, 8, 0, 0, 0), call("change", -1, -1, 0, 0, 0), call("change", 6, SET, 6, 0, 0),
            call("change", 6, ADD, 0, 0, 6), call("change", -1, JUMP, 0, 41, 0)};
        refused(INDEX, RefusalTest::whole, calls);
        refused(INDEX, RefusalTest::fresh, calls);
        refused(INDEX, RefusalTest::full, call("change", 40, 8, 0, 0, 0));
    }

    private static void codeWins() {
        Call[] calls = {call("code", 1, -1, 0), call("code", 1, 6, 0), call("code", 1, 40, 0), call("code", 1, 0, 4),
            call("code", 1, 0, -1), call("code", 1, -1, -1), call("code", 1, MAX, MIN)};
        refused(STATE, RefusalTest::fresh, calls);
        refused(STATE, RefusalTest::unstarted, calls);
        refused(STATE, RefusalTest::changed, calls);
        refused(INDEX, RefusalTest::whole, calls);
        refused(INDEX, RefusalTest::unstarted, call("code", 2, 0, 0), call("code", -1, 0, 0), call("code", 2, -1, 4));
    }

    private static void startWins() {
        refused(INDEX, RefusalTest::fresh, call("start", 2, 0, 0, 0, 0), call("start", -1, 0, 0, 0, 0));
        refused(INDEX, RefusalTest::changed, call("start", 2, 0, 0, 0, 0), call("start", -1, 0, 0, 0, 0));
    }

    private static void runIndexWins() {
        Call[] calls = {call("run", 2, -1), call("run", 2, 10001), call("run", -1, -1), call("run", MAX, MIN),
            call("run", 2, 0), call("run", -1, 10000)};
        refused(INDEX, RefusalTest::fresh, calls);
        refused(INDEX, RefusalTest::unstarted, calls);
        refused(INDEX, RefusalTest::whole, calls);
    }

    private static void runArgumentWins() {
        Call[] calls = {call("run", 0, -1), call("run", 0, 10001), call("run", 1, -1), call("run", 1, 10001),
            call("run", 1, MIN), call("run", 0, MAX)};
        refused(ARGUMENT, RefusalTest::fresh, calls);
        refused(ARGUMENT, RefusalTest::unstarted, calls);
        refused(ARGUMENT, RefusalTest::changed, calls);
    }

    private static void placeWins() {
        refused(INDEX, RefusalTest::fresh, with(call("place", 0), 0, -1, 2, MIN, MAX));
        refused(INDEX, RefusalTest::changed, with(call("place", 0), 0, -1, 2, MIN, MAX));
    }

    private static void valueWins() {
        Call[] calls = {call("value", 2, 0), call("value", -1, 5), call("value", 2, 6), call("value", 0, 6),
            call("value", 0, -1), call("value", 1, 6), call("value", 1, -1)};
        refused(INDEX, RefusalTest::fresh, calls);
        refused(INDEX, RefusalTest::unstarted, calls);
        refused(INDEX, RefusalTest::changed, calls);
    }

    private static void stepsWins() {
        refused(INDEX, RefusalTest::fresh, with(call("steps", 0), 0, -1, 2, MIN, MAX));
        refused(INDEX, RefusalTest::changed, with(call("steps", 0), 0, -1, 2, MIN, MAX));
    }
}
