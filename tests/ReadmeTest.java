import java.io.IOException;
import java.nio.file.Files;
import java.nio.file.Path;
import java.util.ArrayList;
import java.util.Collections;
import java.util.HashMap;
import java.util.List;
import java.util.Map;
import java.util.regex.Matcher;
import java.util.regex.Pattern;

/** README.md keeps to the class: its example answers as it says, its tables name all of the face. */
public final class ReadmeTest {
    private static final Pattern EXAMPLE_CALL =
            Pattern.compile("(?:int (\\w+) = )?loft\\.(\\w+)\\((.*)\\); +// (throws \\w+|[^ :]+).*");
    private static final Pattern METHOD_ROW = Pattern.compile("\\| `(\\w+ \\w+)\\((.*?)\\)` \\|.*\\| (.*?) \\|");
    private static final Pattern CONSTANT_ROW = Pattern.compile("\\| `([A-Z]+)` \\| (-?\\d+) \\|.*");
    private static final Map<String, String> EXCEPTIONS = Map.of("index", "IndexOutOfBoundsException",
            "argument", "IllegalArgumentException", "state", "IllegalStateException");
    private static final Map<String, Integer> CONSTANTS = Map.of("NONE", BroadseamLoft.NONE, "WARP", BroadseamLoft.WARP,
            "WEFT", BroadseamLoft.WEFT, "BIAS", BroadseamLoft.BIAS, "FLAT", BroadseamLoft.FLAT,
            "FELLED", BroadseamLoft.FELLED, "ZIGZAG", BroadseamLoft.ZIGZAG);

    public static void main(String[] args) throws IOException {
        List<String> lines = Files.readAllLines(Path.of("README.md"));
        exampleAnswers(lines);
        methodsNamed(lines);
        constantsNamed(lines);
        Due.end();
    }

    private static void exampleAnswers(List<String> lines) {
        BroadseamLoft loft = new BroadseamLoft();
        Map<String, String> values = new HashMap<>();
        CONSTANTS.forEach((name, value) -> values.put("BroadseamLoft." + name, String.valueOf(value)));
        for (String line : lines) {
            Matcher call = EXAMPLE_CALL.matcher(line);
            boolean isCall = call.matches();
            // A line that the pattern does not know would be an answer that is not held against anything.
            Due.is(line.contains("loft.") && line.contains(");"), "a call with its answer: " + line, () -> isCall);
            if (isCall) {
                String answer = new Line(call.group(2) + told(call.group(3), values)).on(loft);
                Due.is(call.group(4).replace("throws ", "throws."), "README.md: " + line, () -> answer);
                values.put(String.valueOf(call.group(1)), answer);
            }
        }
    }

    /** What a call is told, as a Line takes it: names put by their values. */
    private static String told(String arguments, Map<String, String> values) {
        StringBuilder told = new StringBuilder();
        for (String argument : arguments.split(", *")) {
            told.append(argument.isEmpty() ? "" : " ").append(values.getOrDefault(argument, argument));
        }
        return told.toString();
    }

    private static void methodsNamed(List<String> lines) {
        List<String> named = new ArrayList<>();
        for (String line : lines) {
            Matcher row = METHOD_ROW.matcher(line);
            if (row.matches()) {
                named.add(row.group(1) + "(" + types(row.group(2)) + ") " + exceptions(row.group(3)));
            }
        }
        Collections.sort(named);
        List<String> due = new ArrayList<>(List.of(FaceTest.METHODS));
        Collections.sort(due);
        Due.is(due, "the methods of README.md", () -> named);
    }

    private static String types(String parameters) {
        return parameters.replaceAll(" \\w+(?=,|$)", "").replace(" ", "");
    }

    /** From "index: no such lot; state: it is so already" the exceptions in their order. */
    private static String exceptions(String cell) {
        List<String> names = new ArrayList<>();
        for (String part : cell.split("; ")) {
            if (!part.equals("nothing")) {
                names.add(EXCEPTIONS.getOrDefault(part.split(":")[0], part));
            }
        }
        return String.join(",", names);
    }

    private static void constantsNamed(List<String> lines) {
        Map<String, Integer> named = new HashMap<>();
        for (String line : lines) {
            Matcher row = CONSTANT_ROW.matcher(line);
            if (row.matches()) {
                named.put(row.group(1), Integer.parseInt(row.group(2)));
            }
        }
        Due.is(new HashMap<>(CONSTANTS), "the constants of README.md", () -> named);
    }
}
