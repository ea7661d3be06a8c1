import java.util.ArrayList;
import java.util.LinkedHashMap;
import java.util.List;
import java.util.Map;

/**
 * A new object and the calls that a test makes on it. A call is given as a name with numbers, or as a
 * row: the call, "=", and the answer that is due. A call that throws answers "throws." and the
 * exception's name; swing(1) is swing(true), swing(0) is swing(false).
 */
final class Trial {
    static final int LEAST = Integer.MIN_VALUE;
    static final int MOST = Integer.MAX_VALUE;
    static final String STOPPED = "throws.IllegalStateException";
    static final String ARITHMETIC = "throws.ArithmeticException";
    /** What an object answers after so many calls is free, so no test may ask for it. */
    static final int PROMISED_CALLS = 512;
    static final int KINDS = 9;

    private static int wrong = 0;

    private final SwingBridge bridge = new SwingBridge();
    private int calls = 0;

    /** Ends the test's program, with 1 if an answer was not as due. */
    static void end() {
        if (wrong != 0) {
            System.out.println(wrong + " answers are not as due");
            System.exit(1);
        }
    }

    static void due(String title, String call, Object got, Object want) {
        if (!got.equals(want)) {
            wrong++;
            System.out.println(title + ": " + call + " answered " + got + ", due is " + want);
        }
    }

    /** A new object with a VEHICLE of each KIND, so that number and KIND are the same. */
    static Trial oneOfEach() {
        Trial x = new Trial();
        for (int kind = 0; kind < KINDS; kind++) {
            x.run("one of each KIND", "add(" + kind + ", 1000, 403, 20) = " + kind);
        }
        return x;
    }

    Trial run(String title, String... rows) {
        for (String row : rows) {
            String[] sides = row.split(" = ");
            due(title, sides[0], answer(sides[0]), sides[1]);
        }
        return this;
    }

    /** Makes the call of a row: it changes what the due rows say, and nothing else that can be asked. */
    Trial changes(String title, String row, String... due) {
        Map<String, String> before = state();
        run(title, row);
        List<String> changed = new ArrayList<>();
        for (Map.Entry<String, String> told : state().entrySet()) {
            if (!told.getValue().equals(before.get(told.getKey()))) {
                changed.add(told.getKey() + " = " + told.getValue());
            }
        }
        due(title, "what changed by " + row, changed, List.of(due));
        return this;
    }

    /** Makes the call of a row: nothing is changed by it. */
    Trial refused(String title, String row) {
        return changes(title, row);
    }

    /** All that can be asked without a change, by calls. */
    private Map<String, String> state() {
        Map<String, String> told = new LinkedHashMap<>();
        int vehicles = Integer.parseInt(answer("count", 0));
        for (int i = 0; i < vehicles * 8; i++) {
            ask(told, "tell(" + i / 8 + ", " + i % 8 + ")");
        }
        for (int i = 0; i < 24; i++) {
            ask(told, "deck(" + i + ")");
        }
        for (int i = 0; i < KINDS; i++) {
            ask(told, "began(" + i + ")");
        }
        for (int i = 0; i < 6; i++) {
            ask(told, "count(" + i + ")");
        }
        return told;
    }

    private void ask(Map<String, String> told, String call) {
        told.put(call, answer(call));
    }

    Trial beganAre(String title, int... want) {
        int[] got = begans();
        for (int i = 0; i < want.length; i++) {
            due(title, "began(" + i + ")", got[i], want[i]);
        }
        return this;
    }

    int[] begans() {
        int[] began = new int[KINDS];
        for (int i = 0; i < began.length; i++) {
            began[i] = Integer.parseInt(answer("began", i));
        }
        return began;
    }

    int calls() {
        return calls;
    }

    String answer(String call) {
        String[] parts = call.split("[(), ]+");
        int[] numbers = new int[parts.length - 1];
        for (int i = 0; i < numbers.length; i++) {
            numbers[i] = Integer.parseInt(parts[i + 1]);
        }
        return answer(parts[0], numbers);
    }

    String answer(String name, int... a) {
        calls++;
        if (calls > PROMISED_CALLS) {
            throw new Error("the test asks for what is free: call " + calls + " of one object");
        }
        try {
            return Integer.toString(call(name, a));
        } catch (RuntimeException e) {
            return (isOfMachine(e) ? "machine throws." : "throws.") + e.getClass().getSimpleName();
        }
    }

    /** The class is to throw by itself; the machine's own division by 0 has this text. */
    private static boolean isOfMachine(RuntimeException e) {
        return "/ by zero".equals(e.getMessage());
    }

    private int call(String name, int[] a) {
        switch (name) {
            case "add": return bridge.add(a[0], a[1], a[2], a[3]);
            case "weight": return bridge.weight(a[0]);
            case "toll": return bridge.toll(a[0], a[1]);
            case "fits": return bridge.fits(a[0]);
            case "enter": return bridge.enter(a[0], a[1]);
            case "leave": return bridge.leave(a[0]);
            case "rebate": return bridge.rebate(a[0]);
            case "bill": return bridge.bill(a[0], a[1]);
            case "month": return bridge.month(a[0], a[1]);
            case "swing": return bridge.swing(a[0] != 0);
            case "rush": return bridge.rush(a[0]);
            case "clear": return bridge.clear();
            case "tell": return bridge.tell(a[0], a[1]);
            case "deck": return bridge.deck(a[0]);
            case "began": return bridge.began(a[0]);
            case "count": return bridge.count(a[0]);
            default: throw new Error("the test names no call of the class: " + name);
        }
    }
}
