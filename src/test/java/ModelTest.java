import java.util.Arrays;

/** Long runs of calls, the same each time, on the class and on the model: their answers are alike. */
public final class ModelTest {
    private static final int RUNS = 3000;
    /** All that can be asked without a change, of 24 VEHICLES: see isAlikeInAll. */
    private static final int CALLS_AT_END = 24 * (8 + 3);

    public static void main(String[] args) {
        for (int run = 0; run < RUNS; run++) {
            if (!isAlike(run)) {
                System.exit(1);
            }
        }
    }

    private static boolean isAlike(int run) {
        Calls picked = new Calls(run);
        Trial x = new Trial();
        Model model = new Model();
        boolean asksAllAtEnd = run % 2 == 0;
        int calls = Trial.PROMISED_CALLS - (asksAllAtEnd ? CALLS_AT_END : 0);
        StringBuilder told = new StringBuilder();
        for (int i = 0; i < calls; i++) {
            picked.pick();
            String name = picked.name();
            int[] a = picked.numbers();
            String got = x.answer(name, a);
            String want = model.answer(name, a);
            told.append(name).append(Arrays.toString(a)).append(" = ").append(got).append('\n');
            if (!got.equals(want)) {
                System.out.print("run " + run + ":\n" + told);
                System.out.println("the last answer due is " + want);
                return false;
            }
        }
        return !asksAllAtEnd || isAlikeInAll(run, x, model);
    }

    /** All that can be asked without a change, so that no difference stays hidden to a run's end. */
    private static boolean isAlikeInAll(int run, Trial x, Model model) {
        boolean alike = true;
        for (int i = 0; i < 24; i++) {
            for (int what = 0; what < 8; what++) {
                alike &= x.answer("tell", i, what).equals(model.answer("tell", i, what));
            }
            alike &= x.answer("deck", i).equals(model.answer("deck", i));
            alike &= x.answer("began", i).equals(model.answer("began", i));
            alike &= x.answer("count", i).equals(model.answer("count", i));
        }
        if (!alike) {
            System.out.println("run " + run + ": the states at its end differ");
        }
        return alike;
    }
}
