import java.util.Arrays;

/**
 * What each call leaves behind, to the last number that can be asked: an ACT that is done, one that is
 * STOPPED or fails by ARITHMETIC (what was done by then stays done), and the RULES that each KIND hands down.
 */
public final class LeftBehindTest {
    private static final String STOPPED = Trial.STOPPED;
    private static final String ARITHMETIC = Trial.ARITHMETIC;
    /** A KIND of MASS 1000, LOAD 403, SHARE 20; a call on it; and how many RULES of KINDS 0 to 8 begin by it. */
    private static final String[] HANDED_DOWN = {
        "0: weight(0) = 1000: 100000000", "1: weight(0) = 1000: 100000000", "2: weight(0) = 1000: 100000000",
        "3: weight(0) = 1000: 100000000", "4: weight(0) = 1403: 100010000", "5: weight(0) = 1503: 100011000",
        "6: weight(0) = 1403: 100010000", "7: weight(0) = 1393: 100010010", "8: weight(0) = 1000: 100000000",
        "0: toll(0, 12) = 15: 200000000", "1: toll(0, 12) = 15: 200000000", "2: toll(0, 12) = 25: 201000000",
        "3: toll(0, 12) = 25: 201100000", "3: toll(0, 23) = 50: 201100000", "4: toll(0, 12) = 19: 200010000",
        "5: toll(0, 12) = 70: 200012000", "6: toll(0, 12) = 19: 200010000", "7: toll(0, 12) = 18: 200010020",
        "7: toll(0, 23) = 0: 000000010", "8: toll(0, 12) = 0: 000000001",
        "0: fits(0) = 1: 200000000", "1: fits(0) = 1: 200000000", "2: fits(0) = 1: 200000000",
        "3: fits(0) = 1: 200000000", "4: fits(0) = 1: 200010000", "5: fits(0) = 1: 200012000",
        "6: fits(0) = 1: 200010000", "7: fits(0) = 1: 200010020", "8: fits(0) = 1: 000000001",
        "0: rebate(0) = 20: 100000000", "1: rebate(0) = 20: 100000000", "2: rebate(0) = 25: 101000000",
        "3: rebate(0) = 25: 101000000", "4: rebate(0) = 20: 100000000", "5: rebate(0) = 20: 100000000",
        "6: rebate(0) = 20: 100000000", "7: rebate(0) = 40: 100000010", "8: rebate(0) = 20: 100000000",
        "3: bill(0, 12) = 19: 302100000", "6: bill(0, 12) = 16: 300010000", "7: bill(0, 12) = 11: 300010030",
        "7: bill(0, 23) = 0: 100000020",
        "3: month(0, 0) = 19: 302100000", "6: month(0, 1) = 36: 300010000", "7: month(0, 1) = 15: 100000020",
    };

    public static void main(String[] args) {
        handedDown();
        enterOfEach();
        enterOfLateBusAtNight();
        leaveOfEach();
        stoppedByTheLimit();
        stoppedByTheDeck();
        stoppedSwungOpen();
        stoppedThenOn();
        cycleWithoutLoad();
        cycleStoppedTwice();
        rushOfNone();
        rushOfAll();
        rushByNumbers();
        rushGoesOn();
        rushSwungOpen();
        rushFillsUpToTheLimit();
        clearOfNone();
        clearOfAll();
        addIsAshore();
        newObject();
        objectsApart();
        Trial.end();
    }

    private static Trial one(int kind) {
        return new Trial().run("VEHICLE 0", "add(" + kind + ", 1000, 403, 20) = 0");
    }

    private static void handedDown() {
        for (String row : HANDED_DOWN) {
            String[] parts = row.split(": ");
            one(Integer.parseInt(parts[0])).changes("KIND " + parts[0], parts[1], begins(parts[2]));
        }
    }

    private static String[] begins(String digits) {
        StringBuilder rows = new StringBuilder();
        for (int kind = 0; kind < digits.length(); kind++) {
            if (digits.charAt(kind) != '0') {
                rows.append("began(").append(kind).append(") = ").append(digits.charAt(kind)).append('\n');
            }
        }
        return rows.toString().split("\n");
    }

    private static void enterOfEach() {
        String[][] told = {
            {"enter(0, 12) = 15", "tell(0, 4) = 1", "tell(0, 5) = 15", "tell(0, 6) = 1", "deck(0) = 0", "began(0) = 5",
                "count(1) = 1"},
            {"enter(0, 12) = 15", "tell(0, 4) = 1", "tell(0, 5) = 15", "tell(0, 6) = 1", "deck(0) = 0", "began(0) = 5",
                "count(1) = 1"},
            {"enter(0, 12) = 25", "tell(0, 4) = 1", "tell(0, 5) = 25", "tell(0, 6) = 1", "deck(0) = 0", "began(0) = 5",
                "began(2) = 1", "count(1) = 1"},
            {"enter(0, 12) = 26", "tell(0, 4) = 1", "tell(0, 5) = 26", "tell(0, 6) = 1", "tell(0, 7) = 1",
                "deck(0) = 0", "began(0) = 5", "began(2) = 1", "began(3) = 2", "count(1) = 1"},
            {"enter(0, 12) = 19", "tell(0, 4) = 1", "tell(0, 5) = 19", "tell(0, 6) = 1", "deck(0) = 0", "began(0) = 5",
                "began(4) = 2", "count(1) = 1"},
            {"enter(0, 12) = 70", "tell(0, 4) = 1", "tell(0, 5) = 70", "tell(0, 6) = 1", "deck(0) = 0", "began(0) = 5",
                "began(4) = 2", "began(5) = 5", "count(1) = 1", "count(2) = 8900"},
            {"enter(0, 12) = 19", "tell(0, 2) = 443", "tell(0, 4) = 1", "tell(0, 5) = 19", "tell(0, 6) = 1",
                "deck(0) = 0", "began(0) = 5", "began(4) = 2", "began(6) = 1", "count(1) = 1"},
            {"enter(0, 12) = 19", "tell(0, 2) = 443", "tell(0, 4) = 1", "tell(0, 5) = 19", "tell(0, 6) = 1",
                "deck(0) = 0", "began(0) = 5", "began(4) = 2", "began(6) = 1", "began(7) = 4", "count(1) = 1"},
            {"enter(0, 12) = 0", "tell(0, 4) = 1", "tell(0, 6) = 1", "deck(0) = 0", "began(0) = 1", "began(8) = 3",
                "count(1) = 1"},
        };
        for (int kind = 0; kind < told.length; kind++) {
            one(kind).changes("promise 6, ENTER of KIND " + kind, told[kind][0], rest(told[kind]));
        }
    }

    private static String[] rest(String[] rows) {
        return Arrays.copyOfRange(rows, 1, rows.length);
    }

    private static void enterOfLateBusAtNight() {
        one(7).changes("promise 6, a LATE BUS at night", "enter(0, 23) = 0", "tell(0, 2) = 443", "tell(0, 4) = 1",
            "tell(0, 6) = 1", "deck(0) = 0", "began(0) = 3", "began(4) = 1", "began(6) = 1", "began(7) = 3",
            "count(1) = 1");
    }

    private static void leaveOfEach() {
        String[][] told = {
            {"tell(0, 4) = 0", "deck(0) = -101", "began(0) = 6", "count(1) = 0"},
            {"tell(0, 4) = 0", "deck(0) = -101", "began(0) = 6", "count(1) = 0"},
            {"tell(0, 4) = 0", "deck(0) = -101", "began(0) = 6", "count(1) = 0"},
            {"tell(0, 4) = 0", "tell(0, 7) = 0", "deck(0) = -101", "began(0) = 6", "began(3) = 3", "count(1) = 0"},
            {"tell(0, 2) = 201", "tell(0, 4) = 0", "deck(0) = -101", "began(0) = 6", "began(4) = 3", "count(1) = 0"},
            {"tell(0, 2) = 201", "tell(0, 4) = 0", "deck(0) = -101", "began(0) = 6", "began(4) = 3", "began(5) = 6",
                "count(1) = 0", "count(2) = 9000"},
            {"tell(0, 2) = 221", "tell(0, 4) = 0", "deck(0) = -101", "began(0) = 6", "began(4) = 3", "count(1) = 0"},
            {"tell(0, 2) = 221", "tell(0, 4) = 0", "deck(0) = -101", "began(0) = 6", "began(4) = 3", "count(1) = 0"},
            {"tell(0, 4) = 0", "deck(0) = -101", "began(0) = 2", "count(1) = 0"},
        };
        for (int kind = 0; kind < told.length; kind++) {
            Trial x = one(kind);
            x.answer("enter", 0, 12);
            x.changes("promise 7, LEAVE of KIND " + kind, "leave(0) = 0", told[kind]);
            Trial y = one(kind);
            y.answer("enter", 0, 12);
            y.changes("promise 13, LEAVE of KIND " + kind, "clear() = 1", told[kind]);
        }
    }

    /** On the DECK is a CART of 5000, by which 5 RULES of CART began; the other weighs 4001 as it comes on. */
    private static Trial besideCart(String add) {
        return new Trial().run("a CART on the DECK", "add(0, 5000, 0, 0) = 0", "enter(0, 12) = 55", add + " = 1");
    }

    private static void stoppedByTheLimit() {
        String row = "enter(1, 12) = " + STOPPED;
        for (int kind = 0; kind <= 2; kind++) {
            besideCart("add(" + kind + ", 4001, 7, 0)").changes("promise 6, STOPPED", row, "began(0) = 9",
                "count(4) = 1");
        }
        besideCart("add(3, 4001, 7, 0)").changes("promise 6, a CAB STOPPED", row,
            "tell(1, 7) = 1", "began(0) = 9", "began(3) = 1", "count(4) = 1");
        besideCart("add(4, 3000, 1001, 0)").changes("promise 6, a LORRY STOPPED", row,
            "began(0) = 9", "began(4) = 1", "count(4) = 1");
        besideCart("add(6, 3000, 961, 0)").changes("promise 6, a BUS STOPPED", row,
            "tell(1, 2) = 1001", "began(0) = 9", "began(4) = 1", "began(6) = 1", "count(4) = 1");
        besideCart("add(7, 3010, 961, 0)").changes("promise 6, a LATE BUS STOPPED", row,
            "tell(1, 2) = 1001", "began(0) = 9", "began(4) = 1", "began(6) = 1", "began(7) = 2", "count(4) = 1");
    }

    private static void stoppedByTheDeck() {
        besideCart("add(5, 1, 0, 0)").changes("promise 6, a TANKER STOPPED", "enter(1, 12) = " + STOPPED,
            "began(0) = 9", "began(4) = 1", "began(5) = 3", "count(4) = 1");
        new Trial().run("a BUS on the DECK", "add(6, 1, 0, 0) = 0", "enter(0, 12) = 5", "add(7, 1, 0, 0) = 1")
            .changes("promise 6, a LATE BUS STOPPED", "enter(1, 12) = " + STOPPED, "tell(1, 2) = 40", "began(0) = 9",
                "began(4) = 4", "began(6) = 2", "began(7) = 2", "count(4) = 1");
        new Trial().run("a TANKER beyond the LIMIT", "add(5, 4001, 4000, 0) = 0")
            .changes("promise 6, a TANKER STOPPED", "enter(0, 12) = " + STOPPED, "began(0) = 3", "began(4) = 1",
                "began(5) = 3", "count(4) = 1");
    }

    private static void stoppedSwungOpen() {
        String row = "enter(0, 12) = " + STOPPED;
        for (int kind = 0; kind <= 2; kind++) {
            open(kind).changes("promise 6, swung open", row, "began(0) = 3", "count(4) = 1");
        }
        open(3).changes("promise 6, swung open", row, "tell(0, 7) = 1", "began(0) = 3", "began(3) = 1", "count(4) = 1");
        open(4).changes("promise 6, swung open", row, "began(0) = 3", "began(4) = 1", "count(4) = 1");
        open(5).changes("promise 6, swung open", row, "began(0) = 3", "began(4) = 1", "began(5) = 3", "count(4) = 1");
        open(6).changes("promise 6, swung open", row, "tell(0, 2) = 443", "began(0) = 3", "began(4) = 1",
            "began(6) = 1", "count(4) = 1");
        open(7).changes("promise 6, swung open", row, "tell(0, 2) = 443", "began(0) = 3", "began(4) = 1",
            "began(6) = 1", "began(7) = 2", "count(4) = 1");
    }

    private static Trial open(int kind) {
        return one(kind).run("swung open", "swing(1) = 1");
    }

    private static void stoppedThenOn() {
        open(3).run("promise 6, what was done stays done", "enter(0, 12) = " + STOPPED, "swing(0) = 1",
            "enter(0, 12) = 27", "tell(0, 6) = 1", "tell(0, 7) = 2");
        open(6).run("promise 6, what was done stays done", "enter(0, 12) = " + STOPPED, "swing(0) = 1",
            "enter(0, 12) = 19", "tell(0, 6) = 1", "tell(0, 2) = 483");
        open(5).run("promise 6, what was not done is not", "enter(0, 12) = " + STOPPED, "swing(0) = 1",
            "enter(0, 12) = 70", "tell(0, 5) = 70", "count(2) = 8900");
    }

    private static void cycleWithoutLoad() {
        Trial x = new Trial().run("a CYCLE without LOAD", "add(8, 10, 0, 0) = 0");
        x.changes("promise 4, ARITHMETIC", "toll(0, 12) = " + ARITHMETIC, "began(8) = 1", "count(5) = 1");
        x.changes("promise 6, ARITHMETIC", "enter(0, 12) = " + ARITHMETIC, "began(0) = 1", "began(8) = 4",
            "count(5) = 2");
        x.changes("promise 12, ARITHMETIC", "rush(12) = 0", "began(0) = 2", "began(8) = 7", "count(5) = 3");
        x.run("promise 6, it stays ashore", "leave(0) = -103", "clear() = 0");
    }

    private static void cycleStoppedTwice() {
        for (int load = 0; load <= 1; load++) {
            Trial x = new Trial().run("a CYCLE", "add(8, 10, " + load + ", 0) = 0", "swing(1) = 1");
            x.changes("promise 6, a second STOPPED stays", "enter(0, 12) = " + STOPPED, "began(0) = 2", "began(8) = 3",
                "count(4) = 2");
            x.changes("promise 12, a second STOPPED stays", "rush(12) = 0", "began(0) = 4", "began(8) = 6",
                "count(4) = 4");
        }
    }

    private static void rushOfNone() {
        new Trial().refused("promise 12, no VEHICLES", "rush(0) = 0");
        new Trial().run("all on the DECK", "add(0, 1, 0, 0) = 0", "add(3, 1, 0, 0) = 1", "add(6, 1, 0, 0) = 2",
            "rush(12) = 3").refused("promise 12, none ashore", "rush(12) = 0");
    }

    private static void rushOfAll() {
        Trial x = new Trial();
        for (int i = 0; i < 24; i++) {
            x.run("a fleet", "add(0, 375, 0, 0) = " + i);
        }
        x.run("promise 12, 24 that weigh 9000", "rush(12) = 24", "count(1) = 24", "deck(0) = 0", "deck(23) = 23",
            "count(4) = 0", "rush(12) = 0", "leave(7) = 23", "rush(12) = 1", "deck(23) = 7", "deck(7) = 8",
            "tell(7, 6) = 2", "tell(8, 6) = 1");
        // ENTER, FIT, TOLL and twice WEIGHT of 24 and of one more; WEIGHTS of 0 to 23 on the DECK, of 23; one LEAVE.
        x.run("promise 12, RULES of 24", "began(0) = " + (25 * 5 + 276 + 23 + 1));
    }

    private static void rushByNumbers() {
        new Trial().run("promise 12, by numbers", "add(0, 1, 0, 0) = 0", "add(0, 1, 0, 0) = 1", "add(0, 1, 0, 0) = 2",
            "add(0, 1, 0, 0) = 3", "enter(2, 12) = 5", "rush(12) = 3", "deck(0) = 2", "deck(1) = 0", "deck(2) = 1",
            "deck(3) = 3", "leave(0) = 3", "leave(2) = 2", "rush(12) = 2", "deck(0) = 1", "deck(1) = 3", "deck(2) = 0",
            "deck(3) = 2");
        // The first TANKER comes on alone; the CART after it is none the worse for that.
        new Trial().run("promise 12, by numbers", "add(5, 1, 0, 0) = 0", "add(5, 1, 0, 0) = 1", "add(0, 1, 0, 0) = 2",
            "rush(12) = 2", "deck(0) = 0", "deck(1) = 2", "tell(1, 4) = 0", "count(2) = 8900", "count(4) = 1");
        new Trial().run("promise 12, by numbers", "add(0, 1, 0, 0) = 0", "add(5, 1, 0, 0) = 1", "rush(12) = 1",
            "tell(1, 4) = 0", "count(2) = 9000", "count(4) = 1");
        new Trial().run("promise 12, LATE BUSES", "add(7, 1, 0, 0) = 0", "add(6, 1, 0, 0) = 1",
            "add(7, 1, 0, 0) = 2", "rush(12) = 2", "deck(0) = 0", "deck(1) = 1", "tell(2, 2) = 40", "count(4) = 1");
    }

    private static void rushGoesOn() {
        new Trial().run("one of each fate", "add(8, 10, 0, 0) = 0", "add(0, 5000, 0, 0) = 1", "add(3, 4001, 0, 0) = 2",
            "add(8, 10, 0, 0) = 3", "add(6, 3000, 961, 0) = 4", "add(8, 5000, 50, 0) = 5")
            .changes("promise 12, who is STOPPED, or fails, stays ashore", "rush(12) = 2",
                "tell(1, 4) = 1", "tell(1, 5) = 55", "tell(1, 6) = 1", "tell(2, 7) = 1", "tell(4, 2) = 1001",
                "tell(5, 4) = 1", "tell(5, 5) = 2", "tell(5, 6) = 1", "deck(0) = 1", "deck(1) = 5",
                // CYCLES 1 each; the CART 5; the CAB and the BUS ENTER, FIT and two WEIGHTS each.
                "began(0) = " + (3 + 5 + 4 + 4), "began(3) = 1", "began(4) = 1", "began(6) = 1", "began(8) = 9",
                "count(1) = 2", "count(4) = 2", "count(5) = 2");
    }

    private static void rushSwungOpen() {
        Trial.oneOfEach().run("swung open", "swing(1) = 1").changes("promise 12, swung open", "rush(23) = 0",
            "tell(3, 7) = 1", "tell(6, 2) = 443", "tell(7, 2) = 443", "began(0) = " + (8 * 3 + 2), "began(3) = 1",
            "began(4) = 4", "began(5) = 3", "began(6) = 2", "began(7) = 2", "began(8) = 3", "count(4) = 10");
    }

    private static void rushFillsUpToTheLimit() {
        new Trial().run("promise 12, up to the LIMIT", "add(0, 5000, 0, 0) = 0", "add(0, 3999, 0, 0) = 1",
            "add(0, 2, 0, 0) = 2", "add(0, 1, 0, 0) = 3", "add(0, 1, 0, 0) = 4", "rush(12) = 3", "deck(2) = 3",
            "tell(2, 4) = 0", "tell(4, 4) = 0", "count(4) = 2", "rush(12) = 0", "count(4) = 4", "leave(3) = 2",
            "rush(12) = 1", "deck(2) = 3", "count(4) = 6");
    }

    private static void clearOfNone() {
        new Trial().refused("promise 13, no VEHICLES", "clear() = 0");
        Trial.oneOfEach().refused("promise 13, none on the DECK", "clear() = 0");
        open(0).refused("promise 13, swung open", "clear() = 0");
    }

    private static void clearOfAll() {
        Trial x = new Trial();
        for (int i = 0; i < 24; i++) {
            x.run("a fleet", "add(" + (i % 2 == 0 ? 3 : 4) + ", 1, " + i + ", 0) = " + i);
        }
        x.run("promise 13, all 24", "rush(12) = 24", "tell(22, 7) = 1", "clear() = 24", "clear() = 0", "count(1) = 0",
            "deck(0) = -101", "tell(22, 7) = 0", "tell(22, 2) = 22", "tell(23, 2) = 11", "tell(0, 4) = 0",
            "tell(23, 4) = 0", "swing(1) = 1", "swing(0) = 1", "rush(12) = 24", "tell(23, 6) = 2");
        new Trial().run("some on the DECK", "add(5, 1, 9, 0) = 0", "add(0, 1, 9, 0) = 1", "add(3, 1, 9, 0) = 2",
            "add(4, 1, 9, 0) = 3", "enter(0, 12) = 55", "enter(3, 12) = 5", "enter(2, 12) = 16")
            .changes("promise 13, those on the DECK", "clear() = 3", "tell(0, 2) = 4", "tell(0, 4) = 0",
                "tell(2, 4) = 0", "tell(2, 7) = 0", "tell(3, 2) = 4", "tell(3, 4) = 0", "deck(0) = -101",
                "deck(1) = -101", "deck(2) = -101",
                // Three times ENTER, FIT, TOLL, two WEIGHTS; 0, 1, 2 WEIGHTS on the DECK; three times LEAVE.
                "began(0) = " + (15 + 3 + 3), "began(3) = 3",
                // WEIGHTS of the TANKER: for itself 2, for the others 2. Of the LORRY: 2 and 1. Each LEAVES once.
                "began(4) = " + (4 + 1 + 3 + 1), "began(5) = " + (3 + 2 + 2 + 1), "count(1) = 0", "count(2) = 9000");
    }

    private static void addIsAshore() {
        new Trial().run("some before", "add(0, 1, 0, 0) = 0", "enter(0, 12) = 5").changes("promise 2, a VEHICLE ashore",
            "add(6, 811, 34, 56) = 1", "tell(1, 0) = 6", "tell(1, 1) = 811", "tell(1, 2) = 34", "tell(1, 3) = 56",
            "tell(1, 4) = 0", "tell(1, 5) = 0", "tell(1, 6) = 0", "tell(1, 7) = 0", "count(0) = 2");
        open(0).run("promise 2, swung open", "add(0, 1, 0, 0) = 1", "count(3) = 0");
    }

    private static void newObject() {
        new Trial().run("promise 1, no VEHICLES, SHUT", "count(0) = 0", "count(1) = 0", "count(2) = 9000",
            "count(3) = 1", "count(4) = 0", "count(5) = 0", "tell(0, 0) = -101", "deck(0) = -101", "swing(0) = 0")
            .beganAre("promise 1, no RULE began", 0, 0, 0, 0, 0, 0, 0, 0, 0);
    }

    private static void objectsApart() {
        Trial x = new Trial();
        Trial y = new Trial().run("promise 1, another object", "add(5, 1, 0, 0) = 0", "add(8, 1, 0, 0) = 1",
            "enter(0, 12) = 55", "toll(1, 12) = " + ARITHMETIC, "rush(12) = 0");
        x.run("promise 1, an object apart", "count(0) = 0", "count(1) = 0", "count(2) = 9000", "count(5) = 0",
            "swing(1) = 1").beganAre("promise 1, an object apart", 0, 0, 0, 0, 0, 0, 0, 0, 0);
        y.run("promise 1, another object", "count(3) = 1", "count(0) = 2", "count(1) = 1", "count(2) = 8900");
    }
}
