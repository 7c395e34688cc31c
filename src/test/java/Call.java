import java.util.stream.Collectors;
import java.util.stream.IntStream;

/** A call of the face by its name and numbers, so that it can stand in a table and be told. */
record Call(String name, int... numbers) {
    private static final String[] NAMES = {"add", "change", "clear", "reached", "reachedAll", "known", "constant",
        "rewrite", "code", "start", "run", "place", "value", "steps"};
    private static final int[] LENGTHS = {4, 5, 0, 1, 0, 2, 2, 0, 3, 5, 2, 1, 2, 1};

    static int kinds() {
        return NAMES.length;
    }

    /** The call of a kind with the first of these numbers, as many as it takes. */
    static Call ofKind(int kind, int[] numbers) {
        return new Call(NAMES[kind], java.util.Arrays.copyOf(numbers, LENGTHS[kind]));
    }

    /** The answer as a text; a boolean counts 1 or 0, a call without an answer 0. */
    String answer(BranchConstants x) {
        try {
            return Integer.toString(ask(x));
        } catch (RuntimeException e) {
            return "throws." + e.getClass().getSimpleName();
        }
    }

    String answer(Model m) {
        try {
            return Integer.toString(ask(m));
        } catch (RuntimeException e) {
            return "throws." + e.getClass().getSimpleName();
        }
    }

    private int ask(BranchConstants x) {
        int[] a = numbers;
        switch (name) {
            case "add": return x.add(a[0], a[1], a[2], a[3]);
            case "change": x.change(a[0], a[1], a[2], a[3], a[4]); return 0;
            case "clear": return x.clear();
            case "reached": return x.reached(a[0]) ? 1 : 0;
            case "reachedAll": return x.reachedAll();
            case "known": return x.known(a[0], a[1]);
            case "constant": return x.constant(a[0], a[1]);
            case "rewrite": return x.rewrite();
            case "code": return x.code(a[0], a[1], a[2]);
            case "start": x.start(a[0], a[1], a[2], a[3], a[4]); return 0;
            case "run": return x.run(a[0], a[1]);
            case "place": return x.place(a[0]);
            case "value": return x.value(a[0], a[1]);
            case "steps": return x.steps(a[0]);
            default: throw new AssertionError("no call of the face: " + name);
        }
    }

    private int ask(Model m) {
        int[] a = numbers;
        switch (name) {
            case "add": return m.add(a[0], a[1], a[2], a[3]);
            case "change": return m.change(a[0], a[1], a[2], a[3], a[4]);
            case "clear": return m.clear();
            case "reached": return m.reached(a[0]);
            case "reachedAll": return m.reachedAll();
            case "known": return m.known(a[0], a[1]);
            case "constant": return m.constant(a[0], a[1]);
            case "rewrite": return m.rewrite();
            case "code": return m.code(a[0], a[1], a[2]);
            case "start": return m.start(a[0], a[1], a[2], a[3], a[4]);
            case "run": return m.run(a[0], a[1]);
            case "place": return m.place(a[0]);
            case "value": return m.value(a[0], a[1]);
            case "steps": return m.steps(a[0]);
            default: throw new AssertionError("no call of the face: " + name);
        }
    }

    @Override
    public String toString() {
        return name + IntStream.of(numbers).mapToObj(Integer::toString).collect(Collectors.joining(", ", "(", ")"));
    }
}
