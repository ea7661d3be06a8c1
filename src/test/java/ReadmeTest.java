import java.io.IOException;
import java.lang.reflect.Method;
import java.lang.reflect.Modifier;
import java.nio.file.Files;
import java.nio.file.Path;
import java.util.HashMap;
import java.util.List;
import java.util.Map;
import java.util.Set;
import java.util.TreeMap;
import java.util.TreeSet;
import java.util.regex.Matcher;
import java.util.regex.Pattern;

/** What README.md says of the calls is what the class answers: its example line by line, and its table of calls. */
public final class ReadmeTest {
    private static final int RUNS = 300;
    /** A line of the example: perhaps a name for the answer, the call, and behind it the answer that is due. */
    private static final Pattern LINE =
        Pattern.compile("(?:int (\\w+) = )?bridge\\.(\\w+)\\((.*)\\); +// (throws \\w+|[\\w.-]+).*");
    /** A row of the table: the call, what it does, its codes, what it throws. */
    private static final Pattern ROW =
        Pattern.compile("\\| `(\\w+)\\((.*?)\\)` \\|[^|]+\\|([^|]*)\\|([^|]*)\\|");
    private static final Map<String, String> CODES =
        Map.of("-101", "UNKNOWN", "-102", "OUTSIDE", "-103", "STATE", "-104", "ROOM");

    public static void main(String[] args) throws IOException {
        List<String> lines = Files.readAllLines(Path.of("README.md"));
        example(lines);
        tableNamesTheCalls(lines);
        tableTellsCodesAndExceptions(lines);
        Trial.end();
    }

    private static void example(List<String> lines) {
        Trial x = new Trial();
        Map<String, String> named = new HashMap<>(Map.of("true", "1", "false", "0"));
        int start = lines.indexOf("```java") + 1;
        Trial.due("the example", "its first line", lines.get(start), "SwingBridge bridge = new SwingBridge();");
        int asked = 0;
        for (String line : lines.subList(start + 1, start + lines.subList(start, lines.size()).indexOf("```"))) {
            Matcher call = LINE.matcher(line);
            if (call.matches()) {
                String answer = x.answer(call.group(2) + "(" + withNumbers(call.group(3), named) + ")");
                Trial.due("the example", line, asWritten(answer), call.group(4));
                named.put(String.valueOf(call.group(1)), answer);
                asked++;
            } else {
                Trial.due("the example", "a line that is no call", line, "");
            }
        }
        Trial.due("the example", "that it makes calls", asked > 0, true);
    }

    private static String withNumbers(String arguments, Map<String, String> named) {
        String[] each = arguments.split(", ");
        for (int i = 0; i < each.length; i++) {
            each[i] = named.getOrDefault(each[i], each[i]);
        }
        return String.join(", ", each);
    }

    private static String asWritten(String answer) {
        String code = CODES.get(answer);
        return code != null ? "SwingBridge." + code : answer.replace("throws.", "throws ");
    }

    /** Each call of the class has its row, with as many arguments and the exceptions that it declares. */
    private static void tableNamesTheCalls(List<String> lines) {
        Set<String> told = new TreeSet<>();
        for (Matcher row : rows(lines)) {
            int arguments = row.group(2).isEmpty() ? 0 : row.group(2).split(", ").length;
            told.add(row.group(1) + " of " + arguments + " throws " + words(row.group(4)));
        }
        Set<String> due = new TreeSet<>();
        for (Method m : SwingBridge.class.getDeclaredMethods()) {
            if (Modifier.isPublic(m.getModifiers())) {
                Set<String> thrown = new TreeSet<>();
                for (Class<?> e : m.getExceptionTypes()) {
                    thrown.add(e.getSimpleName());
                }
                due.add(m.getName() + " of " + m.getParameterCount() + " throws " + thrown);
            }
        }
        Trial.due("the table", "the calls", told, due);
    }

    /** Long runs meet each code and each exception that a call can have; its row tells the same. */
    private static void tableTellsCodesAndExceptions(List<String> lines) {
        Map<String, Set<String>> told = new TreeMap<>();
        for (Matcher row : rows(lines)) {
            told.put(row.group(1), words(row.group(3) + row.group(4)));
        }
        Map<String, Set<String>> met = new TreeMap<>();
        for (int run = 0; run < RUNS; run++) {
            Trial x = new Trial();
            Calls picked = new Calls(run);
            for (int i = 0; i < Trial.PROMISED_CALLS; i++) {
                picked.pick();
                Set<String> ofCall = met.computeIfAbsent(picked.name(), name -> new TreeSet<>());
                String answer = x.answer(picked.name(), picked.numbers());
                if (CODES.containsKey(answer)) {
                    ofCall.add(CODES.get(answer));
                } else if (answer.contains("throws.")) {
                    ofCall.add(answer.replace("throws.", ""));
                }
            }
        }
        Trial.due("the table", "codes and exceptions", told, met);
    }

    private static List<Matcher> rows(List<String> lines) {
        return lines.stream().map(ROW::matcher).filter(Matcher::matches).toList();
    }

    /** What stands in a cell between ` and `. */
    private static Set<String> words(String cell) {
        Set<String> words = new TreeSet<>();
        for (String word : cell.split("[` ]+")) {
            if (!word.isEmpty()) {
                words.add(word);
            }
        }
        return words;
    }
}
