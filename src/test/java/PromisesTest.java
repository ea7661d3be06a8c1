/** Runs of calls on new objects, some for each promise, their answers worked out by hand from the document. */
public final class PromisesTest {
    private static final int LEAST = Trial.LEAST;
    private static final int MOST = Trial.MOST;
    private static final String STOPPED = Trial.STOPPED;
    private static final String ARITHMETIC = Trial.ARITHMETIC;

    public static void main(String[] args) {
        newObject();
        add();
        weight();
        toll();
        fits();
        enter();
        enterOfKinds();
        enterOfCycles();
        leave();
        rebate();
        bill();
        month();
        swing();
        rush();
        clear();
        tell();
        deck();
        began();
        count();
        codesChangeNothing();
        Trial.end();
    }

    private static void newObject() {
        Trial x = new Trial().run("promise 1",
            "count(0) = 0", "count(1) = 0", "count(2) = 9000", "count(3) = 1", "count(4) = 0", "count(5) = 0",
            "weight(0) = -101", "deck(0) = -101", "swing(0) = 0");
        x.beganAre("promise 1", 0, 0, 0, 0, 0, 0, 0, 0, 0);
        x.run("promise 1, an object by itself", "add(0, 1, 0, 0) = 0", "enter(0, 0) = 5");
        new Trial().run("promise 1, another object", "count(0) = 0", "count(1) = 0", "began(0) = 0");
    }

    private static void add() {
        new Trial().run("promise 2, edges",
            "add(0, 1, 0, 0) = 0", "add(8, 5000, 5000, 100) = 1", "count(0) = 2",
            "tell(1, 0) = 8", "tell(1, 1) = 5000", "tell(1, 2) = 5000", "tell(1, 3) = 100", "tell(1, 4) = 0",
            "count(1) = 0");
        new Trial().run("promise 2, OUTSIDE",
            "add(-1, 1, 0, 0) = -102", "add(9, 1, 0, 0) = -102",
            "add(0, 0, 0, 0) = -102", "add(0, 5001, 0, 0) = -102",
            "add(0, 1, -1, 0) = -102", "add(0, 1, 5001, 0) = -102",
            "add(0, 1, 0, -1) = -102", "add(0, 1, 0, 101) = -102",
            "add(" + LEAST + ", 1, 0, 0) = -102", "add(" + MOST + ", 1, 0, 0) = -102",
            "add(0, " + LEAST + ", 0, 0) = -102", "add(0, " + MOST + ", 0, 0) = -102",
            "add(0, 1, " + LEAST + ", 0) = -102", "add(0, 1, " + MOST + ", 0) = -102",
            "add(0, 1, 0, " + LEAST + ") = -102", "add(0, 1, 0, " + MOST + ") = -102",
            "count(0) = 0", "add(0, 1, 0, 0) = 0");
        Trial full = new Trial();
        for (int i = 0; i < 24; i++) {
            full.run("promise 2, up to ROOM", "add(" + i % 9 + ", 1, 0, 0) = " + i);
        }
        full.run("promise 2, ROOM",
            "add(0, 1, 0, 0) = -104", "add(9, 1, 0, 0) = -102", "add(0, 1, 0, 101) = -102", "count(0) = 24",
            "tell(23, 0) = 5", "tell(24, 0) = -101");
    }

    private static void weight() {
        Trial x = Trial.oneOfEach().run("promise 3",
            "weight(0) = 1000", "weight(1) = 1000", "weight(2) = 1000", "weight(3) = 1000",
            "weight(4) = 1403", "weight(5) = 1503", "weight(6) = 1403", "weight(7) = 1393", "weight(8) = 1000");
        x.beganAre("promise 3", 9, 0, 0, 0, 4, 1, 0, 1, 0);
        x.run("promise 3, edges",
            "weight(-1) = -101", "weight(9) = -101", "weight(24) = -101",
            "weight(" + LEAST + ") = -101", "weight(" + MOST + ") = -101", "began(0) = 9",
            "add(7, 1, 0, 0) = 9", "weight(9) = -9", "toll(9, 12) = 5",
            "add(5, 5000, 5000, 0) = 10", "weight(10) = 11250",
            "add(5, 1, 3, 0) = 11", "weight(11) = 4");
    }

    private static void toll() {
        Trial x = Trial.oneOfEach().run("promise 4",
            "toll(0, 12) = 15", "toll(1, 12) = 15", "toll(2, 12) = 25", "toll(3, 12) = 25", "toll(4, 12) = 19",
            "toll(5, 12) = 70", "toll(6, 12) = 19", "toll(7, 12) = 18", "toll(8, 12) = 0");
        // CYCLE's RULE asks neither UNDER nor WEIGHT, so eight TOLLS and eight WEIGHTS began at CART.
        x.beganAre("promise 4", 16, 0, 2, 1, 4, 2, 0, 2, 1);
        Trial.oneOfEach().run("promise 4, hours of a CAB",
            "toll(3, 0) = 50", "toll(3, 5) = 50", "toll(3, 6) = 25", "toll(3, 19) = 25", "toll(3, 20) = 50",
            "toll(3, 23) = 50", "began(3) = 6", "began(2) = 6", "began(0) = 12",
            "enter(3, 12) = 26", "toll(3, 12) = 26", "toll(3, 20) = 50");
        Trial.oneOfEach().run("promise 4, hours of a LATE BUS",
            "toll(7, 0) = 0", "toll(7, 4) = 0", "toll(7, 22) = 0", "toll(7, 23) = 0", "began(7) = 4", "began(0) = 0",
            "toll(7, 5) = 18", "toll(7, 21) = 18", "began(7) = 8", "began(4) = 2", "began(0) = 4");
        Trial.oneOfEach().run("promise 4, hours of others",
            "toll(0, 0) = 15", "toll(2, 23) = 25", "toll(5, 3) = 70", "toll(6, 23) = 19", "toll(6, 4) = 19");
        new Trial().run("promise 4, CYCLES",
            "add(8, 5000, 0, 0) = 0", "add(8, 5000, 1, 0) = 1", "add(8, 5000, 7, 0) = 2", "add(8, 5000, 101, 0) = 3",
            "toll(0, 12) = " + ARITHMETIC, "toll(1, 12) = 100", "toll(2, 12) = 14", "toll(3, 12) = 0",
            "began(8) = 4", "began(0) = 0", "count(5) = 1", "count(4) = 0");
        new Trial().run("promise 4, codes",
            "toll(0, 12) = -101", "toll(0, 24) = -101", "add(8, 1, 0, 0) = 0",
            "toll(0, -1) = -102", "toll(0, 24) = -102", "toll(0, " + LEAST + ") = -102", "toll(0, " + MOST + ") = -102",
            "toll(1, 24) = -101", "toll(-1, 0) = -101", "count(5) = 0", "began(8) = 0");
    }

    private static void fits() {
        new Trial().run("promise 5, the LIMIT",
            "add(0, 5000, 0, 0) = 0", "add(0, 4000, 0, 0) = 1", "add(0, 4001, 0, 0) = 2", "add(4, 3000, 1001, 0) = 3",
            "fits(2) = 1", "enter(0, 12) = 55", "fits(1) = 1", "fits(2) = 0", "fits(3) = 0", "fits(0) = 0",
            "count(4) = 0", "fits(-1) = -101", "fits(4) = -101");
        new Trial().run("promise 5, one on the DECK weighs twice",
            "add(0, 4500, 0, 0) = 0", "add(0, 4501, 0, 0) = 1",
            "enter(0, 12) = 50", "fits(0) = 1", "leave(0) = 0", "enter(1, 12) = 50", "fits(1) = 0");
        new Trial().run("promise 5, a TANKER wants an empty DECK",
            "add(5, 10, 0, 0) = 0", "add(8, 10, 1, 0) = 1", "fits(0) = 1",
            "began(5) = 2", "began(4) = 1", "began(0) = 2",
            "enter(1, 12) = 100", "fits(0) = 0", "began(5) = 4", "leave(1) = 0", "fits(0) = 1",
            "enter(0, 12) = 55", "fits(0) = 0");
        for (int bus = 6; bus <= 7; bus++) {
            new Trial().run("promise 5, a LATE BUS wants no bus",
                "add(7, 100, 0, 0) = 0", "add(4, 100, 0, 0) = 1", "add(" + bus + ", 100, 0, 0) = 2", "fits(0) = 1",
                "enter(1, 12) = 6", "fits(0) = 1", "enter(2, 12) = 6",
                "fits(0) = 0", "leave(2) = 1", "fits(0) = 1", "enter(0, 23) = 0", "fits(0) = 0", "fits(1) = 1");
        }
        new Trial().run("promise 5, a BUS beside a BUS",
            "add(6, 100, 0, 0) = 0", "add(6, 100, 0, 0) = 1", "add(7, 100, 0, 0) = 2",
            "enter(2, 23) = 0", "fits(0) = 1", "enter(0, 12) = 6", "fits(1) = 1");
        new Trial().run("promise 5, a CYCLE asks for the BRIDGE alone",
            "add(5, 5000, 3000, 0) = 0", "add(8, 5000, 1, 0) = 1", "fits(1) = 1", "began(0) = 0", "began(8) = 1",
            "enter(0, 12) = 142", "fits(1) = 1", "leave(0) = 0", "swing(1) = 1", "fits(1) = 0");
        Trial open = Trial.oneOfEach().run("promise 5, swung open",
            "swing(1) = 1", "fits(0) = 0", "fits(1) = 0", "fits(2) = 0", "fits(3) = 0", "fits(4) = 0", "fits(5) = 0",
            "fits(6) = 0", "fits(7) = 0", "fits(8) = 0");
        // The WEIGHT is asked in any case: two RULES at CART for each but the CYCLE.
        open.beganAre("promise 5, swung open", 16, 0, 0, 0, 4, 2, 0, 2, 1);
        new Trial().run("promise 5, the TANKER's own LIMIT",
            "add(5, 1000, 0, 0) = 0", "add(0, 3900, 0, 0) = 1", "add(0, 4000, 0, 0) = 2", "add(0, 4001, 0, 0) = 3",
            "enter(0, 12) = 65", "enter(1, 12) = 44", "fits(2) = 1", "fits(3) = 0");
        Trial loaded = new Trial().run("promise 5, WEIGHTS of all on the DECK",
            "add(4, 100, 50, 0) = 0", "add(7, 100, 50, 0) = 1", "add(0, 100, 50, 0) = 2",
            "enter(0, 23) = 6", "enter(1, 23) = 0");
        int[] before = loaded.begans();
        loaded.run("promise 5, WEIGHTS of all on the DECK", "fits(2) = 1");
        int[] after = loaded.begans();
        Trial.due("promise 5", "RULES of CART in fits(2)", after[0] - before[0], 4);
        Trial.due("promise 5", "RULES of LORRY in fits(2)", after[4] - before[4], 2);
        Trial.due("promise 5", "RULES of LATE BUS in fits(2)", after[7] - before[7], 1);
    }

    private static void enter() {
        new Trial().run("promise 6",
            "add(0, 700, 0, 0) = 0", "add(2, 300, 0, 0) = 1",
            "enter(0, 12) = 12", "tell(0, 4) = 1", "tell(0, 5) = 12", "tell(0, 6) = 1", "count(1) = 1",
            "enter(0, 12) = -103", "tell(0, 5) = 12", "tell(0, 6) = 1",
            "enter(1, 0) = 18", "deck(0) = 0", "deck(1) = 1",
            "leave(0) = 1", "enter(0, 23) = 24", "tell(0, 6) = 2", "deck(0) = 1", "deck(1) = 0");
        new Trial().run("promise 6, codes",
            "enter(0, 0) = -101", "enter(0, 24) = -101", "enter(-1, 0) = -101", "add(8, 1, 0, 0) = 0", "swing(1) = 1",
            "enter(0, 24) = -102", "enter(0, -1) = -102", "enter(1, 24) = -101", "count(4) = 0", "count(5) = 0",
            "swing(0) = 1", "add(0, 1, 0, 0) = 1", "enter(1, 0) = 5",
            "enter(1, 24) = -102", "enter(1, 0) = -103", "count(1) = 1", "tell(1, 6) = 1");
        new Trial().run("promise 6, STOPPED",
            "add(0, 5000, 0, 0) = 0", "add(0, 4001, 0, 0) = 1", "enter(0, 12) = 55",
            "enter(1, 12) = " + STOPPED, "tell(1, 4) = 0", "tell(1, 5) = 0", "tell(1, 6) = 0", "count(1) = 1",
            "count(4) = 1", "deck(1) = -101", "leave(0) = 0", "enter(1, 12) = 45", "tell(1, 6) = 1");
        new Trial().run("promise 6, TOLL is not asked of one that is STOPPED",
            "add(2, 10, 0, 0) = 0", "swing(1) = 1", "enter(0, 12) = " + STOPPED, "began(2) = 0", "began(0) = 3");
    }

    private static void enterOfKinds() {
        new Trial().run("promise 6, a CAB's METER",
            "add(3, 100, 0, 0) = 0", "swing(1) = 1", "enter(0, 12) = " + STOPPED, "enter(0, 12) = " + STOPPED,
            "tell(0, 7) = 2", "count(4) = 2", "swing(0) = 1", "enter(0, 12) = 19", "tell(0, 7) = 3", "leave(0) = 0",
            "tell(0, 7) = 0", "enter(0, 20) = 51", "tell(0, 7) = 1");
        new Trial().run("promise 6, a TANKER's LIMIT",
            "add(5, 1000, 400, 0) = 0", "add(5, 5000, 5000, 0) = 1", "enter(1, 12) = " + STOPPED, "count(2) = 9000",
            "enter(0, 12) = 70", "count(2) = 8900", "enter(1, 12) = " + STOPPED, "count(2) = 8900", "count(4) = 2");
        new Trial().run("promise 6, a BUS's LOAD",
            "add(6, 100, 0, 0) = 0", "add(7, 100, 4961, 0) = 1", "add(6, 100, 4960, 0) = 2", "add(6, 1, 5000, 0) = 3",
            "enter(0, 12) = 6", "tell(0, 2) = 40", "enter(1, 12) = " + STOPPED, "tell(1, 2) = 5000",
            "enter(2, 12) = 56", "tell(2, 2) = 5000", "enter(3, 12) = " + STOPPED, "tell(3, 2) = 5000",
            "count(4) = 2", "leave(0) = 1", "leave(2) = 0", "enter(1, 12) = 55", "tell(1, 2) = 5000");
        new Trial().run("promise 6, LOAD is more ahead of FIT and TOLL",
            "add(6, 4000, 60, 0) = 0", "add(0, 4900, 0, 0) = 1", "add(0, 4901, 0, 0) = 2",
            "enter(1, 12) = 54", "enter(0, 12) = 46", "leave(1) = 1", "leave(0) = 0", "tell(0, 2) = 50",
            "add(6, 4000, 60, 0) = 3", "enter(2, 12) = 54", "enter(3, 12) = " + STOPPED, "tell(3, 2) = 100");
        Trial cab = new Trial().run("promise 6, RULES of a CAB",
            "add(3, 1000, 0, 0) = 0", "enter(0, 12) = 26");
        // ENTER: CAB, CART; FIT: CART, WEIGHT; TOLL: CAB, CAR, CART, WEIGHT.
        cab.beganAre("promise 6, RULES of a CAB", 5, 0, 1, 2, 0, 0, 0, 0, 0);
        Trial x = new Trial().run("promise 6, RULES of a LATE BUS",
            "add(7, 1000, 0, 0) = 0", "enter(0, 12) = 15");
        // ENTER: BUS, CART; FIT: LATE BUS, CART, WEIGHT; TOLL: LATE BUS, CART, WEIGHT. WEIGHT: LATE BUS, LORRY, CART.
        x.beganAre("promise 6, RULES of a LATE BUS", 5, 0, 0, 0, 2, 0, 1, 4, 0);
    }

    private static void enterOfCycles() {
        Trial x = new Trial().run("promise 6, a CYCLE STOPPED twice",
            "add(8, 10, 0, 0) = 0", "swing(1) = 1", "enter(0, 12) = " + STOPPED, "count(4) = 2", "count(5) = 0",
            "tell(0, 4) = 0");
        // ENTER: CYCLE once, CART twice; FIT: CYCLE twice.
        x.beganAre("promise 6, a CYCLE STOPPED twice", 2, 0, 0, 0, 0, 0, 0, 0, 3);
        Trial y = new Trial().run("promise 6, a CYCLE without LOAD",
            "add(8, 10, 0, 0) = 0", "enter(0, 12) = " + ARITHMETIC, "count(4) = 0", "count(5) = 1", "count(1) = 0",
            "tell(0, 4) = 0", "tell(0, 5) = 0", "tell(0, 6) = 0");
        y.beganAre("promise 6, a CYCLE without LOAD", 1, 0, 0, 0, 0, 0, 0, 0, 3);
        Trial z = new Trial().run("promise 6, a CYCLE",
            "add(8, 10, 30, 0) = 0", "enter(0, 12) = 3", "count(4) = 0", "count(5) = 0", "tell(0, 6) = 1",
            "deck(0) = 0", "leave(0) = 0", "tell(0, 2) = 30", "enter(0, 12) = 6");
        z.beganAre("promise 6, a CYCLE", 3, 0, 0, 0, 0, 0, 0, 0, 6);
    }

    private static void leave() {
        new Trial().run("promise 7",
            "add(0, 1, 0, 0) = 0", "add(1, 1, 7, 0) = 1", "add(2, 1, 0, 0) = 2", "add(8, 1, 9, 0) = 3",
            "leave(0) = -103", "leave(4) = -101", "leave(-1) = -101",
            "rush(12) = 4", "leave(1) = 3", "tell(1, 4) = 0", "tell(1, 2) = 7", "leave(1) = -103",
            "deck(0) = 0", "deck(1) = 2", "deck(2) = 3", "deck(3) = -101",
            "leave(3) = 2", "tell(3, 2) = 9", "leave(0) = 1", "deck(0) = 2", "leave(2) = 0", "deck(0) = -101");
        new Trial().run("promise 7, a LORRY's LOAD",
            "add(4, 1, 7, 0) = 0", "add(6, 1, 21, 0) = 1", "add(5, 1, 9, 0) = 2",
            "enter(2, 12) = 55", "enter(0, 12) = 5", "enter(1, 12) = 5", "leave(0) = 2", "tell(0, 2) = 3",
            "leave(1) = 1", "tell(1, 2) = 30", "leave(2) = 0", "tell(2, 2) = 4",
            "add(7, 1, 0, 0) = 3", "enter(3, 12) = 5", "leave(3) = 0", "tell(3, 2) = 20");
        new Trial().run("promise 7, a TANKER's LIMIT",
            "add(5, 1, 0, 0) = 0", "enter(0, 12) = 55", "count(2) = 8900", "leave(0) = 0", "count(2) = 9000",
            "enter(0, 12) = 110", "leave(0) = 0", "count(2) = 9000");
        Trial x = Trial.oneOfEach();
        for (int i = 0; i < 9; i++) {
            if (i != 5) {
                x.answer("enter", i, 12);
            }
        }
        int[] before = x.begans();
        x.run("promise 7, RULES", "leave(3) = 6", "leave(4) = 5", "leave(7) = -103", "leave(6) = 4", "leave(8) = 3");
        int[] after = x.begans();
        Trial.due("promise 7", "RULES of CART", after[0] - before[0], 4);
        Trial.due("promise 7", "RULES of CAB", after[3] - before[3], 1);
        Trial.due("promise 7", "RULES of LORRY", after[4] - before[4], 2);
        Trial.due("promise 7", "RULES of BUS", after[6] - before[6], 0);
    }

    private static void rebate() {
        Trial x = Trial.oneOfEach().run("promise 8",
            "rebate(0) = 20", "rebate(1) = 20", "rebate(2) = 25", "rebate(3) = 25", "rebate(4) = 20",
            "rebate(5) = 20", "rebate(6) = 20", "rebate(7) = 40", "rebate(8) = 20",
            "rebate(9) = -101", "rebate(-1) = -101", "rebate(" + MOST + ") = -101");
        x.beganAre("promise 8", 9, 0, 2, 0, 0, 0, 0, 1, 0);
        new Trial().run("promise 8, at most 100",
            "add(2, 1, 0, 95) = 0", "add(2, 1, 0, 96) = 1", "add(3, 1, 0, 100) = 2", "add(7, 1, 0, 50) = 3",
            "add(7, 1, 0, 51) = 4", "add(7, 1, 0, 49) = 5", "add(0, 1, 0, 100) = 6", "add(2, 1, 0, 94) = 7",
            "rebate(0) = 100", "rebate(1) = 100", "rebate(2) = 100", "rebate(3) = 100", "rebate(4) = 100",
            "rebate(5) = 98", "rebate(6) = 100", "rebate(7) = 99");
    }

    private static void bill() {
        Trial.oneOfEach().run("promise 9, codes",
            "bill(9, 12) = -101", "bill(-1, 24) = -101", "bill(3, 24) = -102", "bill(3, -1) = -102",
            "bill(0, 24) = -102", "bill(0, 12) = -103", "bill(1, 12) = -103", "bill(2, 12) = -103",
            "bill(4, 12) = -103", "bill(5, 12) = -103", "bill(8, 12) = -103", "began(0) = 0", "began(8) = 0");
        Trial x = Trial.oneOfEach().run("promise 9",
            "bill(3, 12) = 19", "bill(3, 21) = 38", "bill(6, 12) = 16", "bill(7, 12) = 11", "bill(7, 22) = 0");
        // The LATE BUS at 22 asks no UNDER of TOLL, but its REBATE all the same.
        x.beganAre("promise 9", 13, 0, 4, 2, 2, 0, 0, 5, 0);
        new Trial().run("promise 9, the whole off",
            "add(6, 5000, 0, 100) = 0", "bill(0, 12) = 0", "add(6, 5000, 0, 0) = 1", "bill(1, 12) = 55",
            "bill(1, 0) = 55", "bill(1, 23) = 55", "add(6, 5000, 0, 90) = 2", "bill(2, 12) = 6");
        new Trial().run("promise 9, nothing is paid by it",
            "add(0, 1, 0, 0) = 0", "add(0, 1, 0, 0) = 1", "add(3, 5000, 0, 0) = 2", "bill(2, 12) = 62",
            "tell(2, 5) = 0",
            "enter(2, 12) = 66", "bill(2, 12) = 63", "tell(2, 5) = 66");
    }

    private static void month() {
        Trial.oneOfEach().run("promise 10, codes",
            "month(9, 1) = -101", "month(-1, 32) = -101", "month(3, 32) = -102", "month(3, -1) = -102",
            "month(3, " + MOST + ") = -102", "month(3, " + LEAST + ") = -102",
            "month(0, 32) = -102", "month(0, 1) = -103", "month(1, 1) = -103", "month(2, 1) = -103",
            "month(4, 1) = -103", "month(5, 1) = -103", "month(8, 1) = -103", "began(0) = 0");
        Trial x = Trial.oneOfEach().run("promise 10",
            "month(3, 0) = 19", "month(3, 31) = 639", "month(6, 7) = 156", "month(7, 0) = 0", "month(7, 31) = 465");
        x.beganAre("promise 10", 11, 0, 4, 2, 1, 0, 0, 4, 0);
    }

    private static void swing() {
        new Trial().run("promise 11",
            "swing(0) = 0", "count(3) = 1", "swing(1) = 1", "count(3) = 0", "swing(1) = 0", "count(3) = 0",
            "swing(0) = 1", "count(3) = 1", "swing(0) = 0", "add(0, 1, 0, 0) = 0", "swing(1) = 1",
            "enter(0, 1) = " + STOPPED, "swing(0) = 1", "enter(0, 1) = 5", "swing(1) = -103", "count(3) = 1",
            "swing(0) = 0", "leave(0) = 0", "swing(1) = 1", "swing(0) = 1");
    }

    private static void rush() {
        new Trial().run("promise 12, codes",
            "rush(-1) = -102", "rush(24) = -102", "rush(" + LEAST + ") = -102", "rush(" + MOST + ") = -102",
            "rush(0) = 0", "rush(23) = 0", "add(0, 1, 0, 0) = 0", "rush(24) = -102", "count(1) = 0");
        new Trial().run("promise 12",
            "add(0, 5000, 0, 0) = 0", "add(2, 4001, 0, 0) = 1", "add(8, 10, 0, 0) = 2", "add(8, 10, 50, 0) = 3",
            "add(3, 3990, 0, 0) = 4", "add(0, 1, 0, 0) = 5",
            "enter(5, 12) = 5", "rush(20) = 2", "count(1) = 3", "deck(0) = 5", "deck(1) = 0", "deck(2) = 3",
            "tell(1, 4) = 0", "tell(2, 4) = 0", "tell(3, 5) = 2", "tell(4, 7) = 1", "tell(4, 4) = 0", "tell(5, 6) = 1",
            "count(4) = 2", "count(5) = 1",
            "leave(0) = 2", "rush(20) = 1", "deck(2) = 0", "tell(4, 7) = 2", "count(4) = 4", "count(5) = 2");
        Trial x = Trial.oneOfEach().run("promise 12, swung open",
            "swing(1) = 1", "rush(12) = 0", "rush(12) = 0", "count(1) = 0", "count(4) = 20", "count(5) = 0",
            "tell(3, 7) = 2", "tell(6, 2) = 483", "tell(7, 2) = 483", "count(2) = 9000");
        Trial.due("promise 12, swung open", "RULES of CYCLE", x.begans()[8], 6);
        new Trial().run("promise 12, the hour",
            "add(3, 100, 0, 0) = 0", "add(7, 100, 0, 0) = 1", "rush(23) = 2", "tell(0, 5) = 32", "tell(1, 5) = 0",
            "clear() = 2", "rush(12) = 2", "tell(0, 5) = 49", "tell(1, 5) = 6");
    }

    private static void clear() {
        new Trial().run("promise 13", "clear() = 0", "add(0, 1, 0, 0) = 0", "clear() = 0", "began(0) = 0");
        Trial x = new Trial().run("promise 13, LEAVE of each",
            "add(4, 10, 9, 0) = 0", "add(3, 10, 0, 0) = 1", "add(5, 10, 9, 0) = 2", "add(0, 10, 0, 0) = 3",
            "enter(2, 12) = 55", "count(2) = 8900", "enter(1, 12) = 16", "enter(0, 12) = 5");
        int before = x.begans()[0];
        x.run("promise 13, LEAVE of each",
            "clear() = 3", "count(1) = 0", "deck(0) = -101", "tell(0, 4) = 0", "tell(1, 4) = 0", "tell(2, 4) = 0",
            "tell(0, 2) = 4", "tell(1, 7) = 0", "tell(2, 2) = 4", "count(2) = 9000", "tell(3, 4) = 0");
        Trial.due("promise 13", "RULES of CART in clear()", x.begans()[0] - before, 3);
        x.run("promise 13, and on again", "clear() = 0", "swing(1) = 1", "swing(0) = 1", "enter(0, 12) = 10");
    }

    private static void tell() {
        new Trial().run("promise 14",
            "tell(0, 0) = -101", "tell(0, 8) = -101", "add(3, 812, 34, 56) = 0",
            "tell(0, 0) = 3", "tell(0, 1) = 812", "tell(0, 2) = 34", "tell(0, 3) = 56", "tell(0, 4) = 0",
            "tell(0, 5) = 0", "tell(0, 6) = 0", "tell(0, 7) = 0", "tell(0, 8) = -102", "tell(0, -1) = -102",
            "tell(0, " + MOST + ") = -102", "tell(0, " + LEAST + ") = -102", "tell(1, 0) = -101", "tell(-1, 9) = -101",
            "enter(0, 12) = 24", "tell(0, 4) = 1", "tell(0, 5) = 24", "tell(0, 6) = 1", "tell(0, 7) = 1");
    }

    private static void deck() {
        Trial x = new Trial();
        for (int i = 0; i < 24; i++) {
            x.run("promise 15", "add(1, 1, 0, 0) = " + i, "deck(" + i + ") = -101");
        }
        x.run("promise 15", "enter(23, 1) = 5", "rush(1) = 23");
        for (int i = 0; i < 24; i++) {
            x.run("promise 15", "deck(" + i + ") = " + (i == 0 ? 23 : i - 1));
        }
        x.run("promise 15",
            "deck(24) = -101", "deck(-1) = -101", "deck(" + MOST + ") = -101", "deck(" + LEAST + ") = -101",
            "leave(11) = 23", "deck(11) = 10", "deck(12) = 12", "deck(22) = 22", "deck(23) = -101",
            "enter(11, 1) = 10", "deck(23) = 11", "clear() = 24", "deck(0) = -101");
    }

    private static void began() {
        new Trial().run("promise 16",
            "began(-1) = -102", "began(9) = -102", "began(" + MOST + ") = -102", "began(" + LEAST + ") = -102",
            "began(0) = 0", "began(8) = 0", "add(5, 100, 0, 0) = 0", "enter(0, 12) = 56", "leave(0) = 0",
            "tell(0, 0) = 5", "count(0) = 1", "clear() = 0");
        Trial x = new Trial().run("promise 16, a TANKER over and off",
            "add(5, 100, 0, 0) = 0", "enter(0, 12) = 56", "leave(0) = 0");
        // ENTER 5 0, FIT 5 0, WEIGHT 5 4 0, TOLL 5 0, WEIGHT 5 4 0, LEAVE 5 4 0.
        x.beganAre("promise 16, a TANKER over and off", 6, 0, 0, 0, 3, 6, 0, 0, 0);
    }

    private static void count() {
        new Trial().run("promise 17",
            "count(-1) = -102", "count(6) = -102", "count(" + MOST + ") = -102", "count(" + LEAST + ") = -102",
            "add(5, 1, 0, 0) = 0", "add(8, 1, 0, 0) = 1", "add(0, 1, 0, 0) = 2",
            "count(0) = 3", "count(1) = 0", "count(2) = 9000", "count(3) = 1",
            "enter(0, 1) = 55", "count(1) = 1", "count(2) = 8900", "leave(0) = 0", "count(2) = 9000",
            "enter(1, 1) = " + ARITHMETIC, "toll(1, 1) = " + ARITHMETIC, "count(5) = 2",
            "rush(1) = 2", "count(5) = 3", "count(4) = 0", "clear() = 2",
            "swing(1) = 1", "count(3) = 0", "enter(0, 1) = " + STOPPED, "enter(1, 1) = " + STOPPED,
            "enter(2, 1) = " + STOPPED, "count(4) = 4", "rush(1) = 0", "count(4) = 8", "count(5) = 3",
            "fits(0) = 0", "count(4) = 8");
    }

    private static void codesChangeNothing() {
        Trial x = Trial.oneOfEach().run("codes change nothing",
            "enter(6, 24) = -102", "enter(3, -1) = -102", "bill(0, 1) = -103", "month(0, 1) = -103", "leave(4) = -103",
            "rush(24) = -102", "add(9, 1, 0, 0) = -102", "toll(3, 24) = -102", "weight(9) = -101", "fits(9) = -101",
            "tell(6, 2) = 403", "tell(3, 7) = 0", "tell(4, 2) = 403", "count(0) = 9", "count(4) = 0");
        x.beganAre("codes change nothing", 0, 0, 0, 0, 0, 0, 0, 0, 0);
    }
}
