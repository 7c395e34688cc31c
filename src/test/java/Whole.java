/** All that can be asked of an object: objects that tell the same are in the same state. */
final class Whole {
    /** In a longer program what is known is asked before its first and last alone: an object has but 512 calls. */
    private static final int FEW = 8;

    static String of(BranchConstants x) {
        StringBuilder told = new StringBuilder();
        int count = code(x, 0, told);
        for (int i = 0; i < count; i++) {
            tell(told, x, new Call("reached", i));
            boolean isAsked = count <= FEW || i == 0 || i == count - 1;
            for (int v = 0; v < 6 && isAsked; v++) {
                tell(told, x, new Call("known", i, v));
                tell(told, x, new Call("constant", i, v));
            }
        }
        code(x, 1, told);
        for (int side = 0; side < 2; side++) {
            tell(told, x, new Call("place", side));
            tell(told, x, new Call("steps", side));
            for (int v = 0; v < 6; v++) {
                tell(told, x, new Call("value", side, v));
            }
        }
        return told.toString();
    }

    /** Tells the program of a side up to the first instruction that there is none, and how many there are. */
    private static int code(BranchConstants x, int side, StringBuilder told) {
        int count = 0;
        while (!tell(told, x, new Call("code", side, count, 0)).startsWith("throws")) {
            for (int what = 1; what < 4; what++) {
                tell(told, x, new Call("code", side, count, what));
            }
            count++;
        }
        return count;
    }

    private static String tell(StringBuilder told, BranchConstants x, Call call) {
        String answer = call.answer(x);
        told.append(call).append(' ').append(answer).append("; ");
        return answer;
    }
}
