/** The bounds that the RULES name, just inside and just outside each: weights, hours, loads, shares, the LIMIT. */
public final class RuleBoundsTest {
    private static final String STOPPED = Trial.STOPPED;
    private static final String ARITHMETIC = Trial.ARITHMETIC;

    public static void main(String[] args) {
        weightOfMassAlone();
        weightOfLorries();
        weightOfTankers();
        weightOfLateBuses();
        tollByHundreds();
        tollBelowZero();
        tollOfMostWeight();
        tollAtAnyHour();
        tollOfCabs();
        tollOfCabsByMeter();
        tollOfLateBuses();
        tollOfCycles();
        rebateOfShareAlone();
        rebateOfCars();
        rebateOfLateBuses();
        billIsCut();
        billOfNothingAndOfAll();
        billOfMeter();
        monthOfMeter();
        fitAtTheLimit();
        fitAloneAtTheLimit();
        fitByLoaded();
        fitByLoadedOfTanker();
        fitByWeightBelowZero();
        fitBeyondTheLimit();
        fitOfTankers();
        fitOfLateBuses();
        fitOfLateBusesByPlace();
        fitOfCycles();
        fitSwungOpen();
        enterAtTheLimit();
        enterOfCabs();
        enterOfTankers();
        enterOfBuses();
        enterOfBusesUpToMost();
        enterOfBusesAtTheLimit();
        leaveKeepsOrder();
        leaveHalvesLoads();
        leaveOfBuses();
        leaveOfCabs();
        leaveOfTankers();
        Trial.end();
    }

    /** A new object whose VEHICLE 0 has these numbers. */
    private static Trial one(int kind, int mass, int load, int share) {
        return new Trial().run("VEHICLE 0", "add(" + kind + ", " + mass + ", " + load + ", " + share + ") = 0");
    }

    private static void weighs(int kind, int mass, int load, int weight) {
        one(kind, mass, load, 0).run("promise 3, WEIGHT of KIND " + kind, "weight(0) = " + weight);
    }

    private static void weightOfMassAlone() {
        for (int kind : new int[] {0, 1, 2, 3, 8}) {
            weighs(kind, 1, 5000, 1);
            weighs(kind, 5000, 0, 5000);
        }
    }

    private static void weightOfLorries() {
        for (int kind : new int[] {4, 6}) {
            weighs(kind, 1, 0, 1);
            weighs(kind, 1, 1, 2);
            weighs(kind, 5000, 5000, 10000);
        }
    }

    private static void weightOfTankers() {
        weighs(5, 1, 0, 1);
        weighs(5, 1, 3, 4);
        weighs(5, 1, 4, 6);
        weighs(5, 1, 7, 9);
        weighs(5, 1, 8, 11);
        weighs(5, 5000, 4999, 11248);
        weighs(5, 5000, 5000, 11250);
    }

    private static void weightOfLateBuses() {
        weighs(7, 1, 0, -9);
        weighs(7, 9, 0, -1);
        weighs(7, 10, 0, 0);
        weighs(7, 11, 0, 1);
        weighs(7, 5000, 5000, 9990);
    }

    private static void owes(int kind, int mass, int load, int hour, Object toll) {
        one(kind, mass, load, 0).run("promise 4, TOLL of KIND " + kind, "toll(0, " + hour + ") = " + toll);
    }

    private static void tollByHundreds() {
        owes(0, 1, 0, 12, 5);
        owes(0, 99, 0, 12, 5);
        owes(0, 100, 0, 12, 6);
        owes(0, 199, 0, 12, 6);
        owes(0, 200, 0, 12, 7);
        owes(0, 99, 5000, 12, 5);
        owes(1, 99, 5000, 12, 5);
        owes(1, 100, 0, 12, 6);
        owes(2, 99, 5000, 12, 15);
        owes(2, 100, 0, 12, 16);
        // The WEIGHT in CART's RULE is that of the VEHICLE's own KIND.
        owes(4, 50, 49, 12, 5);
        owes(4, 50, 50, 12, 6);
        owes(5, 79, 16, 12, 55);
        owes(5, 80, 16, 12, 56);
        owes(6, 50, 49, 12, 5);
        owes(6, 50, 50, 12, 6);
        owes(7, 109, 0, 12, 5);
        owes(7, 110, 0, 12, 6);
    }

    private static void tollBelowZero() {
        for (int mass = 1; mass <= 11; mass++) {
            owes(7, mass, 0, 12, 5);
        }
    }

    private static void tollOfMostWeight() {
        owes(0, 4999, 5000, 12, 54);
        owes(0, 5000, 5000, 12, 55);
        owes(2, 5000, 5000, 12, 65);
        owes(3, 5000, 5000, 12, 65);
        owes(3, 5000, 5000, 23, 130);
        owes(4, 5000, 5000, 12, 105);
        owes(5, 5000, 5000, 12, 167);
        owes(6, 5000, 5000, 12, 105);
        owes(7, 5000, 5000, 12, 104);
    }

    private static void tollAtAnyHour() {
        Object[][] kinds = {{0, 15}, {1, 15}, {2, 25}, {4, 16}, {5, 66}, {6, 16}, {8, 1}};
        for (Object[] kind : kinds) {
            for (int hour = 0; hour < 24; hour++) {
                owes((Integer) kind[0], 1000, 100, hour, kind[1]);
            }
        }
    }

    private static void tollOfCabs() {
        for (int hour = 0; hour < 24; hour++) {
            owes(3, 1, 0, hour, hour <= 5 || hour >= 20 ? 30 : 15);
        }
    }

    private static void tollOfCabsByMeter() {
        one(3, 1, 0, 0).run("promise 4, a CAB's METER", "toll(0, 6) = 15", "swing(1) = 1", "enter(0, 6) = " + STOPPED,
            "toll(0, 6) = 16", "enter(0, 6) = " + STOPPED, "toll(0, 6) = 17", "toll(0, 19) = 17", "toll(0, 20) = 30",
            "toll(0, 5) = 30", "tell(0, 7) = 2");
    }

    private static void tollOfLateBuses() {
        for (int hour = 0; hour < 24; hour++) {
            boolean free = hour <= 4 || hour >= 22;
            owes(7, 110, 0, hour, free ? 0 : 6);
            one(7, 110, 0, 0).run("a LATE BUS", "toll(0, " + hour + ") = " + (free ? 0 : 6))
                .beganAre("promise 4, UNDER is asked by day alone", free ? new int[] {0, 0, 0, 0, 0, 0, 0, 1, 0}
                    : new int[] {2, 0, 0, 0, 1, 0, 0, 2, 0});
        }
    }

    private static void tollOfCycles() {
        owes(8, 5000, 0, 12, ARITHMETIC);
        owes(8, 1, 0, 0, ARITHMETIC);
        owes(8, 5000, 1, 12, 100);
        owes(8, 5000, 2, 12, 50);
        owes(8, 5000, 3, 12, 33);
        owes(8, 5000, 33, 12, 3);
        owes(8, 5000, 34, 12, 2);
        owes(8, 5000, 50, 12, 2);
        owes(8, 5000, 51, 12, 1);
        owes(8, 5000, 100, 12, 1);
        owes(8, 5000, 101, 12, 0);
        owes(8, 5000, 5000, 12, 0);
    }

    private static void takesOff(int kind, int share, int rebate) {
        one(kind, 1, 0, share).run("promise 8, REBATE of KIND " + kind, "rebate(0) = " + rebate,
            "tell(0, 3) = " + share);
    }

    private static void rebateOfShareAlone() {
        for (int kind : new int[] {0, 1, 4, 5, 6, 8}) {
            takesOff(kind, 0, 0);
            takesOff(kind, 1, 1);
            takesOff(kind, 99, 99);
            takesOff(kind, 100, 100);
        }
    }

    private static void rebateOfCars() {
        for (int kind : new int[] {2, 3}) {
            takesOff(kind, 0, 5);
            takesOff(kind, 94, 99);
            takesOff(kind, 95, 100);
            takesOff(kind, 96, 100);
            takesOff(kind, 100, 100);
        }
    }

    private static void rebateOfLateBuses() {
        takesOff(7, 0, 0);
        takesOff(7, 1, 2);
        takesOff(7, 49, 98);
        takesOff(7, 50, 100);
        takesOff(7, 51, 100);
        takesOff(7, 100, 100);
    }

    private static void billIsCut() {
        // A BUS of 1500 owes 20: 20 * 4 / 100 is 0, and 1 from a SHARE of 5 on.
        one(6, 1500, 0, 4).run("promise 9, cut toward 0", "bill(0, 12) = 20");
        one(6, 1500, 0, 5).run("promise 9, cut toward 0", "bill(0, 12) = 19");
        one(6, 1500, 0, 9).run("promise 9, cut toward 0", "bill(0, 12) = 19");
        one(6, 1500, 0, 10).run("promise 9, cut toward 0", "bill(0, 12) = 18");
        one(6, 1500, 0, 99).run("promise 9, cut toward 0", "bill(0, 12) = 1");
        one(3, 1, 0, 1).run("promise 9, cut toward 0", "bill(0, 12) = 15", "bill(0, 5) = 29");
        one(3, 1, 0, 2).run("promise 9, cut toward 0", "bill(0, 12) = 14", "bill(0, 5) = 28");
    }

    private static void billOfNothingAndOfAll() {
        one(6, 5000, 5000, 0).run("promise 9, nothing off", "bill(0, 12) = 105", "bill(0, 0) = 105",
            "bill(0, 23) = 105");
        one(6, 5000, 5000, 100).run("promise 9, all off", "bill(0, 12) = 0");
        one(3, 5000, 0, 95).run("promise 9, all off", "bill(0, 12) = 0", "bill(0, 23) = 0");
        one(3, 5000, 0, 94).run("promise 9, all but 1 in 100", "bill(0, 12) = 1", "bill(0, 23) = 2");
        one(7, 5000, 5000, 50).run("promise 9, all off", "bill(0, 12) = 0");
        one(7, 5000, 5000, 49).run("promise 9, all but 2 in 100", "bill(0, 12) = 3", "bill(0, 22) = 0",
            "bill(0, 4) = 0");
    }

    private static void billOfMeter() {
        one(3, 1, 0, 0).run("promise 9, a METER", "enter(0, 12) = 16", "bill(0, 19) = 16", "bill(0, 20) = 29",
            "leave(0) = 0", "bill(0, 19) = 15");
    }

    private static void monthOfMeter() {
        one(3, 1, 0, 0).run("promise 10, a METER", "enter(0, 12) = 16", "month(0, 0) = 16", "leave(0) = 0",
            "month(0, 0) = 15");
    }

    /** On the DECK is a CART of 5000, and VEHICLE 1 weighs 4000 or 4001, in the way of its KIND. */
    private static void fitAtTheLimit() {
        int[][] kinds = {{0, 4000, 9}, {1, 4000, 9}, {2, 4000, 9}, {3, 4000, 9}, {4, 3000, 1000}, {6, 3000, 1000},
            {7, 3010, 1000}};
        for (int[] a : kinds) {
            fitsBeside(a[0], a[1], a[2], 1);
            fitsBeside(a[0], a[1] + 1, a[2], 0);
        }
    }

    private static void fitsBeside(int kind, int mass, int load, int fits) {
        one(0, 5000, 0, 0).run("promise 5, LIMIT or less", "enter(0, 12) = 55",
            "add(" + kind + ", " + mass + ", " + load + ", 0) = 1", "fits(1) = " + fits);
    }

    private static void fitAloneAtTheLimit() {
        String[][] kinds = {{"4, 5000, 4000", "4, 5000, 4001"}, {"6, 5000, 4000", "6, 5000, 4001"},
            {"5, 4000, 4000", "5, 4001, 4000"}, {"7, 5000, 4010", "7, 5000, 4011"}};
        for (String[] kind : kinds) {
            new Trial().run("promise 5, LIMIT or less, alone", "add(" + kind[0] + ", 0) = 0", "fits(0) = 1",
                "add(" + kind[1] + ", 0) = 1", "fits(1) = 0");
        }
        new Trial().run("promise 5, the most", "add(5, 5000, 5000, 0) = 0", "fits(0) = 0", "add(4, 5000, 5000, 0) = 1",
            "fits(1) = 0", "add(0, 5000, 5000, 0) = 2", "fits(2) = 1", "add(8, 5000, 5000, 0) = 3", "fits(3) = 1");
    }

    /** VEHICLE 0 of each KIND weighs 5000 on the DECK. */
    private static void fitByLoaded() {
        String[] kinds = {"0, 5000, 9", "1, 5000, 9", "2, 5000, 9", "3, 5000, 9", "4, 3000, 2000", "6, 3000, 1960",
            "7, 3010, 1960", "8, 5000, 9"};
        for (String kind : kinds) {
            Trial x = new Trial().run("promise 5, LOADED", "add(" + kind + ", 0) = 0", "rush(12) = 1",
                "weight(0) = 5000");
            x.run("promise 5, LOADED", "add(0, 4000, 0, 0) = 1", "add(0, 4001, 0, 0) = 2", "fits(1) = 1",
                "fits(2) = 0");
        }
        new Trial().run("promise 5, LOADED of three", "add(0, 3000, 0, 0) = 0", "add(4, 2000, 1000, 0) = 1",
            "add(8, 1000, 1, 0) = 2", "rush(12) = 3", "add(0, 2000, 0, 0) = 3", "add(0, 2001, 0, 0) = 4",
            "fits(3) = 1", "fits(4) = 0", "leave(1) = 2", "fits(4) = 1");
    }

    private static void fitByLoadedOfTanker() {
        one(5, 2500, 2000, 0).run("promise 5, LIMIT is 100 less", "enter(0, 12) = 105", "weight(0) = 5000",
            "add(0, 3900, 0, 0) = 1", "add(0, 3901, 0, 0) = 2", "fits(1) = 1", "fits(2) = 0", "leave(0) = 0",
            "add(0, 5000, 0, 0) = 3", "enter(3, 12) = 55", "add(0, 4000, 0, 0) = 4", "add(0, 4001, 0, 0) = 5",
            "fits(4) = 1", "fits(5) = 0");
    }

    private static void fitByWeightBelowZero() {
        new Trial().run("promise 5, a WEIGHT below 0", "add(0, 5000, 0, 0) = 0", "add(0, 4000, 0, 0) = 1",
            "add(8, 9, 1, 0) = 2", "rush(12) = 3", "add(7, 1, 0, 0) = 3", "add(7, 2, 0, 0) = 4", "add(0, 1, 0, 0) = 5",
            "fits(3) = 1", "fits(4) = 0", "fits(5) = 0", "enter(3, 12) = " + STOPPED, "tell(3, 2) = 40", "fits(3) = 0");
    }

    private static void fitBeyondTheLimit() {
        new Trial().run("promise 5, a CYCLE beyond the LIMIT", "add(0, 5000, 0, 0) = 0", "add(0, 4000, 0, 0) = 1",
            "add(8, 5000, 1, 0) = 2", "add(8, 5000, 1, 0) = 3", "add(0, 1, 0, 0) = 4", "enter(0, 12) = 55",
            "enter(1, 12) = 45", "fits(2) = 1", "enter(2, 12) = 100", "fits(3) = 1", "enter(3, 12) = 100",
            "fits(3) = 1",
            "fits(4) = 0", "enter(4, 12) = " + STOPPED, "count(1) = 4");
    }

    private static void fitOfTankers() {
        for (int kind : new int[] {0, 1, 2, 3, 4, 6, 7, 8}) {
            one(5, 1, 0, 0).run("promise 5, the DECK is empty", "add(" + kind + ", 1, 1, 0) = 1", "fits(0) = 1",
                "swing(0) = 0", "clear() = 0", "fits(0) = 1", "began(5) = 4");
            Trial x = one(5, 1, 0, 0).run("promise 5, one on the DECK", "add(" + kind + ", 1, 1, 0) = 1");
            x.answer("enter", 1, 23);
            x.run("promise 5, one on the DECK", "tell(1, 4) = 1", "fits(0) = 0", "enter(0, 12) = " + STOPPED,
                "leave(1) = 0", "fits(0) = 1", "enter(0, 12) = 55", "fits(0) = 0");
        }
        one(5, 1, 0, 0).run("promise 5, another TANKER on the DECK", "add(5, 1, 0, 0) = 1", "enter(1, 12) = 55",
            "fits(0) = 0", "enter(0, 12) = " + STOPPED, "rush(12) = 0", "count(2) = 8900", "clear() = 1",
            "rush(12) = 1",
            "deck(0) = 0", "deck(1) = -101");
    }

    private static void fitOfLateBuses() {
        for (int kind = 0; kind < Trial.KINDS; kind++) {
            Trial x = one(7, 100, 0, 0).run("promise 5, none is of KIND 6 or 7", "add(" + kind + ", 1, 1, 0) = 1",
                "fits(0) = 1");
            x.answer("enter", 1, 12);
            x.run("promise 5, KIND " + kind + " beside a LATE BUS", "tell(1, 4) = 1",
                "fits(0) = " + (kind == 6 || kind == 7 ? 0 : 1), "leave(1) = 0", "fits(0) = 1");
        }
        for (int kind : new int[] {0, 1, 2, 3, 4, 6, 8}) {
            one(7, 100, 0, 0).run("promise 5, a LATE BUS bars no KIND " + kind, "enter(0, 23) = 0",
                "add(" + kind + ", 100, 1, 0) = 1", "fits(1) = 1", "fits(0) = 0");
        }
    }

    private static void fitOfLateBusesByPlace() {
        for (int place = 0; place < 24 - 1; place++) {
            Trial x = one(7, 100, 0, 0);
            for (int i = 0; i < 23; i++) {
                x.run("a row", "add(" + (i == place ? 6 : 4) + ", 1, 0, 0) = " + (i + 1),
                    "enter(" + (i + 1) + ", 12) = 5");
            }
            x.run("promise 5, a BUS at place " + place, "fits(0) = 0", "leave(" + (place + 1) + ") = 22",
                "fits(0) = 1");
        }
    }

    private static void fitOfCycles() {
        one(8, 5000, 0, 0).run("promise 5, a CYCLE", "fits(0) = 1", "swing(1) = 1", "fits(0) = 0", "swing(0) = 1",
            "fits(0) = 1", "count(5) = 0").beganAre("promise 5, a CYCLE", 0, 0, 0, 0, 0, 0, 0, 0, 3);
    }

    private static void fitSwungOpen() {
        for (int kind = 0; kind < Trial.KINDS; kind++) {
            one(kind, 1, 1, 0).run("promise 5, swung open", "fits(0) = 1", "swing(1) = 1", "fits(0) = 0",
                "enter(0, 12) = " + STOPPED, "swing(0) = 1", "fits(0) = 1");
        }
    }

    private static void enterAtTheLimit() {
        new Trial().run("promise 6, LIMIT or less", "add(0, 5000, 0, 0) = 0", "add(0, 4001, 0, 0) = 1",
            "add(0, 4000, 0, 0) = 2", "add(0, 1, 0, 0) = 3", "enter(0, 12) = 55", "enter(1, 12) = " + STOPPED,
            "enter(2, 12) = 45", "enter(3, 12) = " + STOPPED, "count(4) = 2", "count(1) = 2", "leave(0) = 1",
            "enter(1, 12) = 45", "deck(0) = 2", "deck(1) = 1", "enter(3, 12) = 5", "deck(2) = 3");
    }

    private static void enterOfCabs() {
        one(3, 1, 0, 0).run("promise 6, METER ahead of TOLL", "enter(0, 6) = 16", "leave(0) = 0", "enter(0, 19) = 32",
            "leave(0) = 0", "enter(0, 20) = 62", "leave(0) = 0", "enter(0, 5) = 92", "tell(0, 7) = 1",
            "tell(0, 6) = 4");
    }

    private static void enterOfTankers() {
        one(5, 1, 0, 0).run("promise 6, LIMIT is 100 less", "swing(1) = 1", "enter(0, 12) = " + STOPPED,
            "count(2) = 9000", "swing(0) = 1", "enter(0, 12) = 55", "count(2) = 8900", "enter(0, 12) = -103",
            "count(2) = 8900");
        // FIT is asked ahead of the LIMIT's change, so a TANKER of 9000 comes on.
        one(5, 4000, 4000, 0).run("promise 6, UNDER ahead of LIMIT", "enter(0, 12) = 145", "count(2) = 8900");
        one(5, 4001, 4000, 0).run("promise 6, beyond the LIMIT", "enter(0, 12) = " + STOPPED, "count(2) = 9000");
    }

    private static void enterOfBuses() {
        int[][] loads = {{0, 40}, {1, 41}, {4959, 4999}, {4960, 5000}, {4961, 5000}, {4999, 5000}, {5000, 5000}};
        for (int kind = 6; kind <= 7; kind++) {
            for (int[] load : loads) {
                Trial x = one(kind, 1, load[0], 0);
                x.answer("enter", 0, 12);
                x.run("promise 6, LOAD 40 more, 5000 at most", "tell(0, 2) = " + load[1], "tell(0, 4) = 1");
            }
        }
    }

    private static void enterOfBusesUpToMost() {
        Trial x = one(6, 1, 0, 0).run("a BUS STOPPED again and again", "swing(1) = 1");
        for (int i = 1; i <= 127; i++) {
            x.run("promise 6, LOAD stays more", "enter(0, 12) = " + STOPPED, "tell(0, 2) = " + Math.min(40 * i, 5000));
        }
        x.run("promise 6, LOAD stays more", "count(4) = 127", "swing(0) = 1", "enter(0, 12) = 55", "tell(0, 2) = 5000");
    }

    private static void enterOfBusesAtTheLimit() {
        one(6, 5000, 3960, 0).run("promise 6, LOAD ahead of FIT and TOLL", "enter(0, 12) = 95", "tell(0, 2) = 4000");
        one(6, 5000, 3961, 0).run("promise 6, LOAD ahead of FIT", "fits(0) = 1", "enter(0, 12) = " + STOPPED,
            "tell(0, 2) = 4001", "fits(0) = 0");
        one(7, 5000, 3970, 0).run("promise 6, LOAD ahead of FIT and TOLL", "enter(0, 12) = 95", "tell(0, 2) = 4010");
        one(7, 5000, 3971, 0).run("promise 6, LOAD ahead of FIT", "fits(0) = 1", "enter(0, 12) = " + STOPPED,
            "tell(0, 2) = 4011");
    }

    private static void leaveKeepsOrder() {
        for (int gone = 0; gone < 24; gone++) {
            Trial x = new Trial();
            for (int i = 0; i < 24; i++) {
                x.run("a full DECK", "add(0, 1, 0, 0) = " + i);
            }
            x.run("promise 7, how many are on the DECK still", "rush(12) = 24", "leave(" + gone + ") = 23");
            for (int i = 0; i < 23; i++) {
                x.run("promise 7, the others keep their order", "deck(" + i + ") = " + (i < gone ? i : i + 1));
            }
            x.run("promise 7, behind the others", "deck(23) = -101", "enter(" + gone + ", 12) = 10",
                "deck(23) = " + gone);
        }
    }

    private static void leaveHalvesLoads() {
        int[] loads = {5000, 2500, 1250, 625, 312, 156, 78, 39, 19, 9, 4, 2, 1, 0, 0};
        for (int kind = 4; kind <= 5; kind++) {
            Trial x = one(kind, 1, loads[0], 0);
            for (int i = 1; i < loads.length; i++) {
                x.answer("enter", 0, 12);
                x.run("promise 7, LOAD is LOAD / 2", "tell(0, 2) = " + loads[i - 1], "leave(0) = 0",
                    "tell(0, 2) = " + loads[i]);
            }
        }
        for (int kind : new int[] {0, 1, 2, 3, 8}) {
            Trial x = one(kind, 1, 5000, 0);
            x.answer("enter", 0, 12);
            x.run("promise 7, no LORRY", "leave(0) = 0", "tell(0, 2) = 5000");
        }
    }

    private static void leaveOfBuses() {
        int[] loads = {0, 20, 30, 35, 37, 38, 39, 39};
        for (int kind = 6; kind <= 7; kind++) {
            Trial x = one(kind, 1, loads[0], 0);
            for (int i = 1; i < loads.length; i++) {
                x.answer("enter", 0, 12);
                x.run("promise 7, a BUS's LOAD", "tell(0, 2) = " + (loads[i - 1] + 40), "leave(0) = 0",
                    "tell(0, 2) = " + loads[i]);
            }
        }
        one(6, 1, 5000, 0).run("promise 7, a BUS's LOAD", "enter(0, 12) = 55", "leave(0) = 0", "tell(0, 2) = 2500");
        one(6, 1, 4961, 0).run("promise 7, a BUS's LOAD", "enter(0, 12) = 55", "leave(0) = 0", "tell(0, 2) = 2500");
        one(6, 1, 4959, 0).run("promise 7, a BUS's LOAD", "enter(0, 12) = 55", "leave(0) = 0", "tell(0, 2) = 2499");
    }

    private static void leaveOfCabs() {
        one(3, 1, 0, 0).run("promise 7, METER is 0", "swing(1) = 1", "enter(0, 12) = " + STOPPED,
            "enter(0, 12) = " + STOPPED, "tell(0, 7) = 2", "leave(0) = -103", "tell(0, 7) = 2", "swing(0) = 1",
            "enter(0, 12) = 18", "tell(0, 7) = 3", "leave(0) = 0", "tell(0, 7) = 0", "toll(0, 12) = 15");
    }

    private static void leaveOfTankers() {
        Trial x = one(5, 1, 0, 0).run("a CART beside it", "add(0, 1, 0, 0) = 1");
        for (int i = 1; i <= 20; i++) {
            x.run("promise 7, LIMIT is 100 more, 9000 at most", "enter(0, 12) = " + 55 * i, "count(2) = 8900",
                "enter(1, 12) = " + 5 * i, "leave(0) = 1", "count(2) = 9000", "leave(1) = 0", "count(2) = 9000");
        }
    }
}
