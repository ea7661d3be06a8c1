import java.util.ArrayList;
import java.util.List;

/**
 * The document once more, in another form than the class: one table of who tells which RULE, and a
 * climb through it by numbers. It is plain and slow, and serves as the answer to compare with.
 */
final class Model {
    private static final String STOPPED = "throws.IllegalStateException";
    private static final String ARITHMETIC = "throws.ArithmeticException";
    private static final String UNKNOWN = "-101";
    private static final String OUTSIDE = "-102";
    private static final String STATE = "-103";
    private static final String ROOM = "-104";

    /** The KIND under each KIND. */
    private static final int[] UNDER = {-1, 0, 1, 2, 1, 4, 4, 6, 0};
    private static final int WEIGHT = 0, TOLL = 1, FIT = 2, ENTER = 3, LEAVE = 4, REBATE = 5;
    /** The KINDS that tell a RULE, by ACT. */
    private static final String[] TOLD = {"0457", "023578", "0578", "03568", "0345", "027"};
    private static final int KIND = 0, MASS = 1, LOAD = 2, SHARE = 3, PLACE = 4, PAID = 5, TIMES = 6, METER = 7;

    private final List<int[]> vehicles = new ArrayList<>();
    private final List<Integer> deck = new ArrayList<>();
    private final int[] began = new int[9];
    private int limit = 9000;
    private boolean shut = true;
    private int stops = 0;
    private int failures = 0;
    /** What ended the ACT that runs, or null. */
    private String ended = null;

    String answer(String name, int... a) {
        ended = null;
        switch (name) {
            case "add": return add(a);
            case "swing": return swing(a[0] != 0);
            case "rush": return hour(a[0]) ? rush(a[0]) : OUTSIDE;
            case "clear": return clear();
            case "deck": return a[0] >= 0 && a[0] < deck.size() ? "" + deck.get(a[0]) : UNKNOWN;
            case "began": return a[0] >= 0 && a[0] <= 8 ? "" + began[a[0]] : OUTSIDE;
            case "count": return count(a[0]);
            default: return ofVehicle(name, a);
        }
    }

    private static boolean hour(int hour) {
        return hour >= 0 && hour <= 23;
    }

    private String add(int[] a) {
        boolean inside = a[0] >= 0 && a[0] <= 8 && a[1] >= 1 && a[1] <= 5000
            && a[2] >= 0 && a[2] <= 5000 && a[3] >= 0 && a[3] <= 100;
        if (!inside) {
            return OUTSIDE;
        }
        if (vehicles.size() == 24) {
            return ROOM;
        }
        vehicles.add(new int[] {a[0], a[1], a[2], a[3], 0, 0, 0, 0});
        return "" + (vehicles.size() - 1);
    }

    private String ofVehicle(String name, int[] a) {
        int v = a[0];
        if (v < 0 || v >= vehicles.size()) {
            return UNKNOWN;
        }
        int[] facts = vehicles.get(v);
        boolean hasAccount = facts[KIND] == 3 || facts[KIND] == 6 || facts[KIND] == 7;
        switch (name) {
            case "weight": return "" + act(WEIGHT, v, 0);
            case "fits": return "" + act(FIT, v, 0);
            case "rebate": return "" + act(REBATE, v, 0);
            case "toll":
                if (!hour(a[1])) {
                    return OUTSIDE;
                }
                int toll = act(TOLL, v, a[1]);
                return ended != null ? ended : "" + toll;
            case "enter":
                if (!hour(a[1]) || facts[PLACE] == 1) {
                    return hour(a[1]) ? STATE : OUTSIDE;
                }
                act(ENTER, v, a[1]);
                return ended != null ? ended : "" + facts[PAID];
            case "leave":
                if (facts[PLACE] == 0) {
                    return STATE;
                }
                act(LEAVE, v, 0);
                return "" + deck.size();
            case "bill":
                return !hour(a[1]) ? OUTSIDE : !hasAccount ? STATE : "" + bill(v, a[1]);
            case "month":
                boolean late = facts[KIND] == 7;
                return a[1] < 0 || a[1] > 31 ? OUTSIDE : !hasAccount ? STATE
                    : "" + (a[1] * (late ? 15 : 20) + bill(v, late ? 23 : 12));
            case "tell": return a[1] >= 0 && a[1] <= 7 ? "" + facts[a[1]] : OUTSIDE;
            default: throw new Error("the test names no call of the class: " + name);
        }
    }

    private int bill(int v, int hour) {
        int toll = act(TOLL, v, hour);
        int rebate = act(REBATE, v, 0);
        return toll - toll * rebate / 100;
    }

    private String swing(boolean open) {
        if (shut != open) {
            return "0";
        }
        if (open && !deck.isEmpty()) {
            return STATE;
        }
        shut = !shut;
        return "1";
    }

    private String rush(int hour) {
        int before = deck.size();
        for (int v = 0; v < vehicles.size(); v++) {
            if (vehicles.get(v)[PLACE] == 0) {
                ended = null;
                act(ENTER, v, hour);
            }
        }
        return "" + (deck.size() - before);
    }

    private String clear() {
        List<Integer> row = new ArrayList<>(deck);
        for (int v : row) {
            act(LEAVE, v, 0);
        }
        return "" + row.size();
    }

    private String count(int what) {
        int[] counts = {vehicles.size(), deck.size(), limit, shut ? 1 : 0, stops, failures};
        return what >= 0 && what <= 5 ? "" + counts[what] : OUTSIDE;
    }

    private static boolean tells(int kind, int act) {
        return TOLD[act].indexOf('0' + kind) >= 0;
    }

    private int act(int act, int v, int hour) {
        return actOf(vehicles.get(v)[KIND], act, v, hour);
    }

    private int actOf(int kind, int act, int v, int hour) {
        int teller = kind;
        while (!tells(teller, act)) {
            teller = UNDER[teller];
        }
        began[teller]++;
        switch (act) {
            case WEIGHT: return weight(teller, v);
            case TOLL: return toll(teller, v, hour);
            case FIT: return fit(teller, v) ? 1 : 0;
            case ENTER: enter(teller, v, hour); return 0;
            case LEAVE: leave(teller, v); return 0;
            default: return rebate(teller, v);
        }
    }

    private int under(int teller, int act, int v, int hour) {
        return actOf(UNDER[teller], act, v, hour);
    }

    private int weight(int teller, int v) {
        int[] facts = vehicles.get(v);
        if (teller == 0) {
            return facts[MASS];
        }
        int under = under(teller, WEIGHT, v, 0);
        return teller == 4 ? under + facts[LOAD] : teller == 5 ? under + facts[LOAD] / 4 : under - 10;
    }

    private int toll(int teller, int v, int hour) {
        switch (teller) {
            case 0: return 5 + act(WEIGHT, v, 0) / 100;
            case 2: return under(teller, TOLL, v, hour) + 10;
            case 3:
                boolean night = hour >= 20 || hour <= 5;
                int under = under(teller, TOLL, v, hour);
                return night ? under + under : under + vehicles.get(v)[METER];
            case 5: return under(teller, TOLL, v, hour) + 50;
            case 7: return hour >= 22 || hour <= 4 ? 0 : under(teller, TOLL, v, hour);
            default:
                int load = vehicles.get(v)[LOAD];
                if (load == 0) {
                    failures++;
                    ended = ARITHMETIC;
                    return 0;
                }
                return 100 / load;
        }
    }

    private boolean fit(int teller, int v) {
        if (teller == 8) {
            return shut;
        }
        if (teller == 0) {
            int sum = 0;
            for (int other : deck) {
                sum += act(WEIGHT, other, 0);
            }
            sum += act(WEIGHT, v, 0);
            return shut && sum <= limit;
        }
        boolean fits = under(teller, FIT, v, 0) == 1;
        for (int other : deck) {
            int kind = vehicles.get(other)[KIND];
            fits = fits && teller == 7 && kind != 6 && kind != 7;
        }
        return fits;
    }

    private void enter(int teller, int v, int hour) {
        int[] facts = vehicles.get(v);
        if (teller == 0) {
            enterCart(v, hour);
            return;
        }
        if (teller == 3) {
            facts[METER]++;
        }
        if (teller == 6) {
            facts[LOAD] = facts[LOAD] > 4960 ? 5000 : facts[LOAD] + 40;
        }
        under(teller, ENTER, v, hour);
        if (teller == 8 && STOPPED.equals(ended)) {
            ended = null;
            under(teller, ENTER, v, hour);
        }
        if (teller == 5 && ended == null) {
            limit = limit < 100 ? 0 : limit - 100;
        }
    }

    private void enterCart(int v, int hour) {
        int[] facts = vehicles.get(v);
        if (act(FIT, v, 0) == 0) {
            stops++;
            ended = STOPPED;
            return;
        }
        int toll = act(TOLL, v, hour);
        if (ended == null) {
            facts[PAID] += toll;
            facts[TIMES]++;
            facts[PLACE] = 1;
            deck.add(v);
        }
    }

    private void leave(int teller, int v) {
        int[] facts = vehicles.get(v);
        if (teller == 0) {
            facts[PLACE] = 0;
            deck.remove((Object) v);
            return;
        }
        under(teller, LEAVE, v, 0);
        switch (teller) {
            case 3: facts[METER] = 0; break;
            case 4: facts[LOAD] /= 2; break;
            default: limit = limit > 8900 ? 9000 : limit + 100;
        }
    }

    private int rebate(int teller, int v) {
        if (teller == 0) {
            return vehicles.get(v)[SHARE];
        }
        int under = under(teller, REBATE, v, 0);
        int more = teller == 2 ? under + 5 : 2 * under;
        return more > 100 ? 100 : more;
    }
}
