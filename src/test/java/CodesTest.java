/**
 * The codes UNKNOWN, OUTSIDE, STATE and ROOM: just inside and just outside each bound, which code comes
 * first, and that a call which answers one changes nothing.
 */
public final class CodesTest {
    private static final int LEAST = Trial.LEAST;
    private static final int MOST = Trial.MOST;
    /** The calls on a VEHICLE by their promises, and what a CAB of fleet() answers, in this order. */
    private static final String[] OF_VEHICLES = {
        "3: weight(V) = 1000", "4: toll(V, 12) = 25", "5: fits(V) = 1", "8: rebate(V) = 25", "9: bill(V, 12) = 19",
        "10: month(V, 1) = 39", "14: tell(V, 0) = 3", "6: enter(V, 12) = 26", "7: leave(V) = 0",
    };

    public static void main(String[] args) {
        addOutside();
        addOutsideInSeveral();
        addRoom();
        addRoomBehindOutside();
        addRoomStaysFull();
        unknownVehicles();
        knownVehicles();
        hoursOutside();
        hoursInside();
        hoursOfRush();
        daysOfMonth();
        whatOfTell();
        placesOfDeck();
        kindsOfBegan();
        whatOfCount();
        enterOnTheDeck();
        leaveAshore();
        noAccount();
        anAccount();
        swingOpen();
        unknownAheadOfOutside();
        outsideAheadOfState();
        codesAheadOfExceptions();
        Trial.end();
    }

    /** VEHICLES that are CABS, all ashore. */
    private static Trial fleet(int size) {
        Trial x = new Trial();
        for (int i = 0; i < size; i++) {
            x.run("a fleet", "add(3, 1000, 403, 20) = " + i);
        }
        return x;
    }

    private static void addOutside() {
        String[] names = {"KIND", "MASS", "LOAD (0 .. 5000)", "SHARE"};
        int[] least = {0, 1, 0, 0};
        int[] most = {8, 5000, 5000, 100};
        for (int i = 0; i < names.length; i++) {
            String title = "promise 2, OUTSIDE: " + names[i];
            for (int number : new int[] {LEAST, least[i] - 1, most[i] + 1, MOST}) {
                fleet(2).refused(title, addWith(i, number) + " = -102");
            }
            for (int number : new int[] {least[i], least[i] + 1, most[i] - 1, most[i]}) {
                new Trial().run(title, addWith(i, number) + " = 0", "tell(0, " + i + ") = " + number, "count(0) = 1");
            }
        }
    }

    /** An add() that is fine but for the number at a place. */
    private static String addWith(int place, int number) {
        int[] a = {4, 700, 70, 7};
        a[place] = number;
        return "add(" + a[0] + ", " + a[1] + ", " + a[2] + ", " + a[3] + ")";
    }

    private static void addOutsideInSeveral() {
        for (String row : new String[] {"add(9, 0, -1, 101) = -102", "add(-1, 5001, 5001, -1) = -102",
            "add(0, 0, 0, 101) = -102", "add(9, 1, 5001, 0) = -102"}) {
            fleet(1).refused("promise 2, OUTSIDE in several", row);
        }
    }

    private static void addRoom() {
        for (int kind = 0; kind < Trial.KINDS; kind++) {
            Trial x = new Trial();
            for (int i = 0; i < 24; i++) {
                x.run("promise 2, 24 at most", "add(" + kind + ", 1, 0, 0) = " + i);
            }
            x.refused("promise 2, ROOM", "add(" + kind + ", 1, 0, 0) = -104");
            x.run("promise 2, ROOM", "count(0) = 24", "tell(23, 0) = " + kind, "tell(24, 0) = -101");
        }
        fleet(23).run("promise 2, 24 at most", "add(0, 5000, 5000, 100) = 23", "add(0, 1, 0, 0) = -104");
    }

    private static void addRoomBehindOutside() {
        for (int place = 0; place < 4; place++) {
            fleet(24).refused("promise 2, OUTSIDE ahead of ROOM", addWith(place, -1) + " = -102");
            fleet(24).refused("promise 2, OUTSIDE ahead of ROOM", addWith(place, 5001) + " = -102");
        }
    }

    private static void addRoomStaysFull() {
        fleet(24).run("promise 2, who leaves makes no ROOM", "enter(5, 12) = 26", "leave(5) = 0",
            "add(0, 1, 0, 0) = -104", "add(0, 1, 0, 0) = -104", "count(0) = 24");
    }

    private static void unknownVehicles() {
        for (String row : OF_VEHICLES) {
            String title = "promise " + row.substring(0, row.indexOf(':')) + ", UNKNOWN";
            String call = row.substring(row.indexOf(' ') + 1, row.indexOf(" ="));
            for (int size : new int[] {0, 1, 2, 23, 24}) {
                for (int number : new int[] {LEAST, -1, size, size + 1, 24, 25, MOST}) {
                    fleet(size).refused(title, call.replace("V", "" + number) + " = -101");
                }
            }
        }
    }

    private static void knownVehicles() {
        for (int size : new int[] {1, 2, 23, 24}) {
            for (int number : new int[] {0, size - 1}) {
                Trial x = fleet(size);
                for (String row : OF_VEHICLES) {
                    x.run("promise " + row, row.substring(row.indexOf(' ') + 1).replace("V", "" + number));
                }
            }
        }
    }

    private static void hoursOutside() {
        for (int hour : new int[] {LEAST, -24, -1, 24, 25, MOST}) {
            fleet(2).refused("promise 4, OUTSIDE", "toll(1, " + hour + ") = -102");
            fleet(2).refused("promise 6, OUTSIDE", "enter(1, " + hour + ") = -102");
            fleet(2).refused("promise 9, OUTSIDE", "bill(1, " + hour + ") = -102");
            fleet(2).refused("promise 12, OUTSIDE", "rush(" + hour + ") = -102");
            fleet(0).refused("promise 12, OUTSIDE without VEHICLES", "rush(" + hour + ") = -102");
        }
    }

    private static void hoursInside() {
        for (int hour : new int[] {0, 23}) {
            fleet(1).run("promise 4, an HOUR", "toll(0, " + hour + ") = 50");
            fleet(1).run("promise 6, an HOUR", "enter(0, " + hour + ") = 50");
            fleet(1).run("promise 9, an HOUR", "bill(0, " + hour + ") = 38");
        }
    }

    private static void hoursOfRush() {
        fleet(2).run("promise 12, an HOUR", "rush(0) = 2", "tell(0, 5) = 50", "tell(1, 5) = 50", "clear() = 2",
            "rush(23) = 2", "tell(0, 5) = 100", "clear() = 2", "rush(12) = 2", "tell(0, 5) = 126");
    }

    private static void daysOfMonth() {
        for (int n : new int[] {LEAST, -1, 32, 33, MOST}) {
            fleet(1).refused("promise 10, OUTSIDE", "month(0, " + n + ") = -102");
            new Trial().run("promise 10, OUTSIDE", "add(7, 1000, 403, 20) = 0", "month(0, " + n + ") = -102");
        }
        fleet(1).run("promise 10, n days", "month(0, 0) = 19", "month(0, 1) = 39", "month(0, 30) = 619",
            "month(0, 31) = 639");
        new Trial().run("promise 10, n days of a LATE BUS", "add(7, 1000, 403, 20) = 0",
            "month(0, 0) = 0", "month(0, 1) = 15", "month(0, 30) = 450", "month(0, 31) = 465");
    }

    private static void whatOfTell() {
        for (int what : new int[] {LEAST, -1, 8, 9, MOST}) {
            fleet(1).refused("promise 14, OUTSIDE", "tell(0, " + what + ") = -102");
        }
        new Trial().run("promise 14, at first", "add(6, 811, 34, 56) = 0", "tell(0, 0) = 6", "tell(0, 1) = 811",
            "tell(0, 2) = 34", "tell(0, 3) = 56", "tell(0, 4) = 0", "tell(0, 5) = 0", "tell(0, 6) = 0",
            "tell(0, 7) = 0");
    }

    private static void placesOfDeck() {
        for (int onDeck : new int[] {0, 1, 2, 23, 24}) {
            for (int i : new int[] {LEAST, -1, onDeck, onDeck + 1, 24, MOST}) {
                fleetWith(onDeck).refused("promise 15, there is none such", "deck(" + i + ") = -101");
            }
            if (onDeck > 0) {
                fleetWith(onDeck).run("promise 15, the first and the last", "deck(0) = 0",
                    "deck(" + (onDeck - 1) + ") = " + (onDeck - 1));
            }
        }
    }

    /** So many light CARTS on the DECK, and one more ashore if there is ROOM. */
    private static Trial fleetWith(int onDeck) {
        Trial x = new Trial();
        for (int i = 0; i < onDeck; i++) {
            x.run("a DECK", "add(0, 1, 0, 0) = " + i);
        }
        x.run("a DECK", "rush(12) = " + onDeck);
        return onDeck == 24 ? x : x.run("a DECK", "add(0, 1, 0, 0) = " + onDeck);
    }

    private static void kindsOfBegan() {
        for (int kind : new int[] {LEAST, -1, 9, 10, MOST}) {
            fleetWith(1).refused("promise 16, OUTSIDE", "began(" + kind + ") = -102");
        }
        fleetWith(1).run("promise 16, the first KIND", "began(0) = 5");
        new Trial().run("promise 16, the last KIND", "add(8, 1, 1, 0) = 0", "began(8) = 0", "toll(0, 1) = 100",
            "began(8) = 1");
    }

    private static void whatOfCount() {
        for (int what : new int[] {LEAST, -1, 6, 7, MOST}) {
            fleetWith(1).refused("promise 17, OUTSIDE", "count(" + what + ") = -102");
        }
        fleetWith(1).run("promise 17, the first and the last", "count(0) = 2", "count(5) = 0");
    }

    private static void enterOnTheDeck() {
        for (int kind = 0; kind < Trial.KINDS; kind++) {
            Trial x = new Trial().run("promise 6, ashore", "add(" + kind + ", 1000, 403, 20) = 0");
            x.answer("enter", 0, 12);
            x.refused("promise 6, STATE: it is on the DECK", "enter(0, 12) = -103");
            x.run("promise 6, ashore again", "leave(0) = 0", "tell(0, 6) = 1");
            x.answer("enter", 0, 12);
            x.run("promise 6, ashore again", "tell(0, 4) = 1", "tell(0, 6) = 2");
        }
    }

    private static void leaveAshore() {
        for (int kind = 0; kind < Trial.KINDS; kind++) {
            Trial.oneOfEach().refused("promise 7, STATE: it is ashore", "leave(" + kind + ") = -103");
        }
        fleetWith(2).run("promise 7, twice", "leave(0) = 1").refused("promise 7, STATE: it is ashore",
            "leave(0) = -103");
        new Trial().run("promise 7, STOPPED", "add(0, 1, 0, 0) = 0", "swing(1) = 1", "enter(0, 1) = " + Trial.STOPPED,
            "leave(0) = -103");
    }

    private static void noAccount() {
        for (int kind : new int[] {0, 1, 2, 4, 5, 8}) {
            Trial.oneOfEach().refused("promise 9, STATE: no ACCOUNT", "bill(" + kind + ", 12) = -103");
            Trial.oneOfEach().refused("promise 10, STATE: no ACCOUNT", "month(" + kind + ", 31) = -103");
        }
        new Trial().run("promise 9, a CYCLE without LOAD", "add(8, 1, 0, 0) = 0")
            .refused("promise 9, a CYCLE without LOAD", "bill(0, 12) = -103")
            .refused("promise 10, a CYCLE without LOAD", "month(0, 0) = -103");
    }

    private static void anAccount() {
        Trial.oneOfEach().run("promise 9, KINDS 3, 6, 7", "bill(3, 12) = 19", "bill(6, 12) = 16", "bill(7, 12) = 11");
        Trial.oneOfEach().run("promise 10, KINDS 3, 6, 7", "month(3, 2) = 59", "month(6, 2) = 56", "month(7, 2) = 30");
    }

    private static void swingOpen() {
        for (int onDeck : new int[] {1, 2, 24}) {
            fleetWith(onDeck).refused("promise 11, STATE: the DECK is not empty", "swing(1) = -103");
            fleetWith(onDeck).refused("promise 11, 0: it was so", "swing(0) = 0");
        }
        fleetWith(0).changes("promise 11, it opens", "swing(1) = 1", "count(3) = 0")
            .refused("promise 11, 0: it was so", "swing(1) = 0")
            .changes("promise 11, it shuts", "swing(0) = 1", "count(3) = 1")
            .refused("promise 11, 0: it was so", "swing(0) = 0");
        fleetWith(2).run("promise 11, the DECK is empty again", "leave(0) = 1", "swing(1) = -103", "leave(1) = 0",
            "swing(1) = 1", "swing(1) = 0");
        fleetWith(2).run("promise 11, the DECK is cleared", "clear() = 2", "swing(1) = 1");
    }

    private static void unknownAheadOfOutside() {
        for (int number : new int[] {-1, 1, 24}) {
            for (int other : new int[] {-1, 32, MOST}) {
                String rest = "(" + number + ", " + other + ") = -101";
                fleet(1).refused("promise 4, UNKNOWN ahead of OUTSIDE", "toll" + rest);
                fleet(1).refused("promise 6, UNKNOWN ahead of OUTSIDE", "enter" + rest);
                fleet(1).refused("promise 9, UNKNOWN ahead of OUTSIDE", "bill" + rest);
                fleet(1).refused("promise 10, UNKNOWN ahead of OUTSIDE", "month" + rest);
                fleet(1).refused("promise 14, UNKNOWN ahead of OUTSIDE", "tell" + rest);
            }
        }
    }

    private static void outsideAheadOfState() {
        for (int other : new int[] {-1, 32, LEAST, MOST}) {
            String rest = "(0, " + other + ") = -102";
            fleetWith(1).refused("promise 6, OUTSIDE ahead of STATE", "enter" + rest);
            fleetWith(0).refused("promise 9, OUTSIDE ahead of STATE", "bill" + rest);
            fleetWith(0).refused("promise 10, OUTSIDE ahead of STATE", "month" + rest);
        }
    }

    private static void codesAheadOfExceptions() {
        Trial empty = new Trial().run("a CYCLE without LOAD", "add(8, 1, 0, 0) = 0");
        empty.refused("promise 4, OUTSIDE ahead of ARITHMETIC", "toll(0, 24) = -102");
        empty.refused("promise 4, UNKNOWN ahead of ARITHMETIC", "toll(1, 12) = -101");
        empty.refused("promise 6, OUTSIDE ahead of ARITHMETIC", "enter(0, 24) = -102");
        Trial open = fleet(1).run("a BRIDGE swung open", "swing(1) = 1");
        open.refused("promise 6, OUTSIDE ahead of STOPPED", "enter(0, -1) = -102");
        open.refused("promise 6, UNKNOWN ahead of STOPPED", "enter(1, 12) = -101");
        new Trial().run("one that would weigh too much twice", "add(0, 4501, 0, 0) = 0", "enter(0, 12) = 50",
            "fits(0) = 0")
            .refused("promise 6, STATE ahead of STOPPED", "enter(0, 12) = -103");
    }
}
