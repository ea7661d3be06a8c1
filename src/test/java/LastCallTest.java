/** An object keeps its promises to its 512th call, however full it is and however often it counted. */
public final class LastCallTest {
    public static void main(String[] args) {
        stoppedToTheEnd();
        cyclesStoppedToTheEnd();
        failingToTheEnd();
        fullDeckToTheEnd();
        paidToTheEnd();
        metersToTheEnd();
        tankersToTheEnd();
        refusedToTheEnd();
        swingingToTheEnd();
        rushAndClearToTheEnd();
        Trial.end();
    }

    private static Trial fleet(String numbers) {
        Trial x = new Trial();
        for (int i = 0; i < 24; i++) {
            x.run("a fleet", "add(" + numbers + ") = " + i);
        }
        return x;
    }

    private static Trial times(Trial x, int times, String... rows) {
        for (int i = 0; i < times; i++) {
            x.run("again and again", rows);
        }
        return x;
    }

    private static void last(Trial x, String row) {
        Trial.due("the last call", row, x.calls(), Trial.PROMISED_CALLS - 1);
        x.run("the last call", row);
    }

    private static void stoppedToTheEnd() {
        String[] rows = {"count(0) = 24", "count(1) = 0", "count(4) = " + 24 * 486, "tell(23, 7) = 486",
            "toll(23, 12) = " + (15 + 486), "began(0) = " + 24 * 486 * 3, "began(3) = " + 24 * 486, "rush(12) = 0"};
        for (String row : rows) {
            last(times(fleet("3, 1, 0, 0").run("swung open", "swing(1) = 1"), 486, "rush(12) = 0"), row);
        }
    }

    private static void cyclesStoppedToTheEnd() {
        String[] rows = {"count(4) = " + 24 * 486 * 2, "count(5) = 0", "began(0) = " + 24 * 486 * 2,
            "began(8) = " + 24 * 486 * 3, "enter(23, 12) = " + Trial.STOPPED};
        for (String row : rows) {
            last(times(fleet("8, 1, 0, 0").run("swung open", "swing(1) = 1"), 486, "rush(12) = 0"), row);
        }
    }

    private static void failingToTheEnd() {
        String[] rows = {"count(4) = 0", "count(5) = " + 24 * 487, "began(0) = " + 24 * 487,
            "began(8) = " + 24 * 487 * 3,
            "toll(0, 12) = " + Trial.ARITHMETIC, "enter(0, 12) = " + Trial.ARITHMETIC};
        for (String row : rows) {
            last(times(fleet("8, 1, 0, 0"), 487, "rush(12) = 0"), row);
        }
    }

    private static void fullDeckToTheEnd() {
        // The BUSES come on with 5 RULES of CART each and 0 to 23 WEIGHTS; a FIT asks 25 WEIGHTS.
        String[] rows = {"fits(23) = 1", "began(0) = " + (24 * 5 + 276 + 486 * 26), "began(6) = 24",
            "began(4) = " + (24 * 2 + 276 + 486 * 25), "deck(23) = 23", "deck(24) = -101", "clear() = 24",
            "leave(0) = 23",
            "enter(0, 12) = -103", "swing(1) = -103"};
        for (String row : rows) {
            last(times(fleet("6, 1, 0, 0").run("all on", "rush(12) = 24"), 486, "fits(0) = 1"), row);
        }
    }

    private static void paidToTheEnd() {
        for (String row : new String[] {"tell(0, 5) = " + 255 * 105, "tell(0, 6) = 255", "count(2) = 9000"}) {
            Trial x = new Trial().run("a TANKER", "add(5, 5000, 0, 0) = 0");
            for (int i = 1; i <= 255; i++) {
                x.run("over and off", "enter(0, 12) = " + 105 * i, "leave(0) = 0");
            }
            last(x, row);
        }
    }

    private static void metersToTheEnd() {
        for (String row : new String[] {"tell(0, 7) = 509", "toll(0, 12) = 524", "toll(0, 23) = 30",
            "bill(0, 12) = 498",
            "month(0, 31) = 1118"}) {
            last(times(new Trial().run("a CAB", "add(3, 1, 0, 0) = 0", "swing(1) = 1"), 509,
                "enter(0, 12) = " + Trial.STOPPED), row);
        }
    }

    private static void tankersToTheEnd() {
        for (String row : new String[] {"count(2) = 8900", "count(1) = 2", "fits(1) = 1", "fits(0) = 0"}) {
            Trial x = new Trial().run("a TANKER and a CART", "add(5, 1, 0, 0) = 0", "add(0, 1, 0, 0) = 1",
                "rush(12) = 2");
            last(times(x, 254, "clear() = 2", "rush(12) = 2"), row);
        }
    }

    private static void refusedToTheEnd() {
        for (String row : new String[] {"count(0) = 24", "began(0) = 0", "add(0, 1, 0, 0) = -104",
            "add(9, 1, 0, 0) = -102"}) {
            last(times(fleet("0, 1, 0, 0"), 487, "add(0, 1, 0, 0) = -104"), row);
        }
        for (String row : new String[] {"add(0, 1, 0, 0) = 0", "count(0) = 0", "rush(12) = 0"}) {
            last(times(new Trial(), 511, "add(0, 1, 0, 101) = -102"), row);
        }
    }

    private static void swingingToTheEnd() {
        for (String row : new String[] {"count(3) = 0", "swing(1) = 0", "swing(0) = 1"}) {
            last(times(new Trial().run("it opens", "swing(1) = 1"), 255, "swing(0) = 1", "swing(1) = 1"), row);
        }
    }

    private static void rushAndClearToTheEnd() {
        for (String row : new String[] {"tell(23, 6) = 243", "tell(23, 5) = " + 243 * 5, "count(1) = 0",
            "rush(12) = 24",
            "began(0) = " + 243 * (24 * 6 + 276)}) {
            last(times(fleet("0, 1, 0, 0").run("it was SHUT", "swing(0) = 0"), 243, "rush(12) = 24", "clear() = 24"),
                row);
        }
    }
}
