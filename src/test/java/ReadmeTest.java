import java.io.IOException;
import java.nio.file.Files;
import java.nio.file.Path;
import java.util.ArrayList;
import java.util.List;
import java.util.TreeSet;
import java.util.regex.Matcher;
import java.util.regex.Pattern;

/** README.md: what stands behind each call of its example is what the class answers; every call is shown. */
final class ReadmeTest extends Rows {
    private static final Path README = Path.of("README.md");
    private static final Pattern CALL =
            Pattern.compile("x\\.(\\w+)\\((.*)\\);\\s+// (throws \\w+|no answer|\\w+)(: .*)?");

    public static void main(String[] args) throws IOException {
        List<String> example = example(Files.readAllLines(README));
        CHECK.about("README: each line is a call with its answer", () -> eachLineIsRead(example));
        CHECK.about("README: the answers", () -> answers(example));
        CHECK.about("README: every call of the face", () -> everyCall(example));
        CHECK.end();
    }

    /** The lines of its Java, without the first one, that makes the object, and those of comments alone. */
    private static List<String> example(List<String> readme) {
        List<String> lines = new ArrayList<>();
        boolean isInside = false;
        for (String line : readme) {
            if (line.startsWith("```")) {
                isInside = line.equals("```java");
            } else if (isInside && !line.isEmpty() && !line.startsWith("//")) {
                lines.add(line);
            }
        }
        CHECK.dueText("README: the first line", "BranchConstants x = new BranchConstants();", lines.remove(0));
        return lines;
    }

    private static void eachLineIsRead(List<String> example) {
        for (String line : example) {
            CHECK.due(line + " is read", true, CALL.matcher(line).matches());
        }
    }

    private static void answers(List<String> example) {
        BranchConstants x = new BranchConstants();
        for (String line : example) {
            Matcher found = CALL.matcher(line);
            if (found.matches()) {
                CHECK.dueText(line, answer(found.group(3)), call(found).answer(x));
            }
        }
    }

    private static void everyCall(List<String> example) {
        TreeSet<String> shown = new TreeSet<>();
        for (String line : example) {
            Matcher found = CALL.matcher(line);
            if (found.matches()) {
                shown.add(found.group(1));
            }
        }
        for (int kind = 0; kind < Call.kinds(); kind++) {
            String name = Call.ofKind(kind, new int[5]).name();
            CHECK.due(name + " is shown", true, shown.contains(name));
        }
    }

    private static Call call(Matcher found) {
        String[] given = found.group(2).isEmpty() ? new String[0] : found.group(2).split(", ");
        int[] numbers = new int[given.length];
        for (int n = 0; n < given.length; n++) {
            numbers[n] = Integer.parseInt(number(given[n].replace("BranchConstants.", "")));
        }
        return new Call(found.group(1), numbers);
    }

    private static String answer(String told) {
        switch (told) {
            case "true":
                return "1";
            case "false":
            case "no answer":
                return "0";
            default:
                return told.startsWith("throws ") ? told.replace(' ', '.') : number(told);
        }
    }

    /** A number, or the name of a constant of the class. */
    private static String number(String told) {
        try {
            return Character.isUpperCase(told.charAt(0))
                    ? BranchConstants.class.getField(told).get(null).toString() : told;
        } catch (ReflectiveOperationException e) {
            return told + ", which is no constant";
        }
    }
}
