import java.util.Random;

/** The calls of one long run on an object, picked by a seed, so that a run is the same each time. */
final class Calls {
    private static final String[] OF_VEHICLES = {
        "weight", "toll", "fits", "enter", "enter", "enter", "leave", "leave", "rebate", "bill", "month", "tell",
    };
    private static final String[] OTHERS = {"swing", "rush", "clear", "deck", "began", "count"};
    private static final int[] EDGES = {Integer.MIN_VALUE, -1, 0, 8, 9, 24, 31, 32, 101, 5001, Integer.MAX_VALUE};

    private final Random random;
    private final int mass;
    private final int step;
    private int addsFirst;
    private String name;
    private int[] numbers;

    Calls(int seed) {
        random = new Random(seed);
        addsFirst = 1 + random.nextInt(26);
        // Light VEHICLES fill the DECK, heavy ones are STOPPED by the LIMIT, round ones meet it: runs of each.
        mass = random.nextInt(3) == 0 ? 300 : 5000;
        step = mass == 5000 && random.nextBoolean() ? 500 : 1;
    }

    /** Goes on to the next call. */
    void pick() {
        name = addsFirst > 0 ? "add" : pickName();
        addsFirst--;
        numbers = pickNumbers();
        if (numbers.length > 0 && random.nextInt(25) == 0) {
            numbers[random.nextInt(numbers.length)] = EDGES[random.nextInt(EDGES.length)];
        }
    }

    String name() {
        return name;
    }

    int[] numbers() {
        return numbers;
    }

    private String pickName() {
        int pick = random.nextInt(20);
        if (pick == 0) {
            return "add";
        }
        return pick < 14 ? OF_VEHICLES[random.nextInt(OF_VEHICLES.length)] : OTHERS[random.nextInt(OTHERS.length)];
    }

    private int[] pickNumbers() {
        switch (name) {
            case "add":
                int load = random.nextInt(4) == 0 ? random.nextInt(3) : step * random.nextInt(mass / step + 1);
                int own = step * (1 + random.nextInt(mass / step));
                return new int[] {random.nextInt(9), own, load, random.nextInt(101)};
            case "toll": case "enter": case "bill": return new int[] {random.nextInt(26), random.nextInt(24)};
            case "month": return new int[] {random.nextInt(26), random.nextInt(32)};
            case "tell": return new int[] {random.nextInt(26), random.nextInt(8)};
            case "swing": return new int[] {random.nextInt(2)};
            case "began": return new int[] {random.nextInt(9)};
            case "count": return new int[] {random.nextInt(6)};
            case "clear": return new int[0];
            default: return new int[] {random.nextInt(24)};
        }
    }
}
