import java.util.Arrays;
import java.util.Random;

/** Long runs of calls, the same each time, on the class and on the model: their answers are alike. */
public final class ModelTest {
    private static final int RUNS = 3000;
    /** All that can be asked without a change, of 24 VEHICLES: see isAlikeInAll. */
    private static final int CALLS_AT_END = 24 * (8 + 3);
    private static final String[] OF_VEHICLES = {
        "weight", "toll", "fits", "enter", "enter", "enter", "leave", "leave", "rebate", "bill", "month", "tell",
    };
    private static final String[] OTHERS = {"swing", "rush", "clear", "deck", "began", "count"};
    private static final int[] EDGES = {Integer.MIN_VALUE, -1, 0, 8, 9, 24, 31, 32, 101, 5001, Integer.MAX_VALUE};

    public static void main(String[] args) {
        for (int run = 0; run < RUNS; run++) {
            if (!isAlike(run)) {
                System.exit(1);
            }
        }
    }

    private static boolean isAlike(int run) {
        Random random = new Random(run);
        Trial x = new Trial();
        Model model = new Model();
        int vehicles = 1 + random.nextInt(26);
        // Light VEHICLES fill the DECK, heavy ones are STOPPED by the LIMIT, round ones meet it: runs of each.
        int mass = random.nextInt(3) == 0 ? 300 : 5000;
        int step = mass == 5000 && random.nextBoolean() ? 500 : 1;
        boolean asksAllAtEnd = random.nextBoolean();
        int calls = Trial.PROMISED_CALLS - (asksAllAtEnd ? CALLS_AT_END : 0);
        StringBuilder told = new StringBuilder();
        for (int i = 0; i < calls; i++) {
            String name = i < vehicles ? "add" : name(random);
            int[] a = numbers(random, name, mass, step);
            String got = x.answer(name, a);
            String want = model.answer(name, a);
            told.append(name).append(Arrays.toString(a)).append(" = ").append(got).append('\n');
            if (!got.equals(want)) {
                System.out.print("run " + run + ":\n" + told);
                System.out.println("the last answer due is " + want);
                return false;
            }
        }
        return !asksAllAtEnd || isAlikeInAll(run, x, model);
    }

    /** All that can be asked without a change, so that no difference stays hidden to a run's end. */
    private static boolean isAlikeInAll(int run, Trial x, Model model) {
        boolean alike = true;
        for (int i = 0; i < 24; i++) {
            for (int what = 0; what < 8; what++) {
                alike &= x.answer("tell", i, what).equals(model.answer("tell", i, what));
            }
            alike &= x.answer("deck", i).equals(model.answer("deck", i));
            alike &= x.answer("began", i).equals(model.answer("began", i));
            alike &= x.answer("count", i).equals(model.answer("count", i));
        }
        if (!alike) {
            System.out.println("run " + run + ": the states at its end differ");
        }
        return alike;
    }

    private static String name(Random random) {
        int pick = random.nextInt(20);
        if (pick == 0) {
            return "add";
        }
        return pick < 14 ? OF_VEHICLES[random.nextInt(OF_VEHICLES.length)] : OTHERS[random.nextInt(OTHERS.length)];
    }

    private static int[] numbers(Random random, String name, int mass, int step) {
        int[] a;
        switch (name) {
            case "add":
                int load = random.nextInt(4) == 0 ? random.nextInt(3) : step * random.nextInt(mass / step + 1);
                int own = step * (1 + random.nextInt(mass / step));
                a = new int[] {random.nextInt(9), own, load, random.nextInt(101)};
                break;
            case "toll": case "enter": case "bill": a = new int[] {random.nextInt(26), random.nextInt(24)}; break;
            case "month": a = new int[] {random.nextInt(26), random.nextInt(32)}; break;
            case "tell": a = new int[] {random.nextInt(26), random.nextInt(8)}; break;
            case "swing": a = new int[] {random.nextInt(2)}; break;
            case "began": a = new int[] {random.nextInt(9)}; break;
            case "count": a = new int[] {random.nextInt(6)}; break;
            case "clear": a = new int[0]; break;
            default: a = new int[] {random.nextInt(24)};
        }
        if (a.length > 0 && random.nextInt(25) == 0) {
            a[random.nextInt(a.length)] = EDGES[random.nextInt(EDGES.length)];
        }
        return a;
    }
}
