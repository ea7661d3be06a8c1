/**
 * A bridge over a harbour's mouth: vehicles pass over it for a toll, and it swings open for ships.
 *
 * The words in capitals (KIND, ACT, RULE, UNDER ..) are those of the document. The tree of KINDS is
 * the tree of the classes below: an ACT is a method, a RULE that a KIND tells is that KIND's own
 * version of it, UNDER is the call by super, and an ACT that a RULE names is the plain call, which
 * goes to the VEHICLE's own KIND.
 */
public final class SwingBridge {
    public static final int UNKNOWN = -101, OUTSIDE = -102, STATE = -103, ROOM = -104;

    private static final int CART = 0;
    private static final int WHEELED = 1;
    private static final int CAR = 2;
    private static final int CAB = 3;
    private static final int LORRY = 4;
    private static final int TANKER = 5;
    private static final int BUS = 6;
    private static final int LATE_BUS = 7;
    private static final int CYCLE = 8;
    private static final int KINDS = 9;

    private static final int MOST_VEHICLES = 24;
    private static final int MOST_MASS = 5000;
    private static final int MOST_LOAD = 5000;
    private static final int WHOLE_SHARE = 100;
    private static final int HOURS = 24;
    private static final int MOST_DAYS = 31;
    private static final int FULL_LIMIT = 9000;
    private static final int TANKER_LIMIT = 100;
    private static final int BUS_LOAD = 40;

    private static final int ASHORE = 0;
    private static final int ON_DECK = 1;

    private final Bridge bridge;
    private final Cart[] vehicles;
    private int known;

    public SwingBridge() {
        bridge = new Bridge();
        vehicles = new Cart[MOST_VEHICLES];
        known = 0;
    }

    public int add(int kind, int mass, int load, int share) {
        if (isOutside(kind, 0, KINDS - 1) || isOutside(mass, 1, MOST_MASS)) {
            return OUTSIDE;
        }
        if (isOutside(load, 0, MOST_LOAD) || isOutside(share, 0, WHOLE_SHARE)) {
            return OUTSIDE;
        }
        int number = known;
        if (number < 0 || number >= vehicles.length) {
            return ROOM;
        }
        vehicles[number] = make(number, kind, mass, load, share);
        known = number + 1;
        return number;
    }

    public int weight(int vehicle) {
        Cart found = find(vehicle);
        if (found == null) {
            return UNKNOWN;
        }
        return found.weightAct();
    }

    public int toll(int vehicle, int hour) throws ArithmeticException {
        Cart found = find(vehicle);
        if (found == null) {
            return UNKNOWN;
        }
        if (isOutside(hour, 0, HOURS - 1)) {
            return OUTSIDE;
        }
        return found.tollAct(hour);
    }

    public int fits(int vehicle) {
        Cart found = find(vehicle);
        if (found == null) {
            return UNKNOWN;
        }
        return found.fitAct() ? 1 : 0;
    }

    public int enter(int vehicle, int hour) throws IllegalStateException, ArithmeticException {
        Cart found = find(vehicle);
        if (found == null) {
            return UNKNOWN;
        }
        if (isOutside(hour, 0, HOURS - 1)) {
            return OUTSIDE;
        }
        if (found.place == ON_DECK) {
            return STATE;
        }
        found.enterAct(hour);
        return found.paid;
    }

    public int leave(int vehicle) {
        Cart found = find(vehicle);
        if (found == null) {
            return UNKNOWN;
        }
        if (found.place == ASHORE) {
            return STATE;
        }
        found.leaveAct();
        return bridge.onDeck;
    }

    public int rebate(int vehicle) {
        Cart found = find(vehicle);
        if (found == null) {
            return UNKNOWN;
        }
        return found.rebateAct();
    }

    public int bill(int vehicle, int hour) {
        Cart found = find(vehicle);
        if (found == null) {
            return UNKNOWN;
        }
        if (isOutside(hour, 0, HOURS - 1)) {
            return OUTSIDE;
        }
        if (!found.hasAccount()) {
            return STATE;
        }
        return found.billOf(hour);
    }

    public int month(int vehicle, int n) {
        Cart found = find(vehicle);
        if (found == null) {
            return UNKNOWN;
        }
        if (isOutside(n, 0, MOST_DAYS)) {
            return OUTSIDE;
        }
        if (!found.hasAccount()) {
            return STATE;
        }
        return found.monthOf(n);
    }

    public int swing(boolean open) {
        if (open && bridge.onDeck > 0) {
            return STATE;
        }
        boolean moves = open == bridge.shut;
        bridge.shut = !open;
        return moves ? 1 : 0;
    }

    public int rush(int hour) {
        if (isOutside(hour, 0, HOURS - 1)) {
            return OUTSIDE;
        }
        int came = 0;
        for (int i = 0; i < vehicles.length; i++) {
            Cart next = vehicles[i];
            if (next != null && next.place == ASHORE) {
                try {
                    next.enterAct(hour);
                    came++;
                } catch (IllegalStateException stopped) {
                    // A rush goes on with the next; CART's RULE has counted this one.
                } catch (ArithmeticException failed) {
                    // A rush goes on with the next; CYCLE's RULE has counted this one.
                }
            }
        }
        return came;
    }

    public int clear() {
        int leaving = bridge.onDeck;
        for (int i = 0; i < leaving; i++) {
            // Each LEAVE moves the row up, so that the next is always at its head.
            Cart first = bridge.at(0);
            if (first != null) {
                first.leaveAct();
            }
        }
        return leaving;
    }

    public int tell(int vehicle, int what) {
        Cart found = find(vehicle);
        if (found == null) {
            return UNKNOWN;
        }
        switch (what) {
            case 0: return found.kind;
            case 1: return found.mass;
            case 2: return found.load;
            case 3: return found.share;
            case 4: return found.place;
            case 5: return found.paid;
            case 6: return found.times;
            case 7: return found.meter;
            default: return OUTSIDE;
        }
    }

    public int deck(int i) {
        Cart found = bridge.at(i);
        if (found == null) {
            return UNKNOWN;
        }
        return found.number;
    }

    public int began(int kind) {
        if (kind < 0 || kind >= bridge.begun.length) {
            return OUTSIDE;
        }
        return bridge.begun[kind];
    }

    public int count(int what) {
        switch (what) {
            case 0: return known;
            case 1: return bridge.onDeck;
            case 2: return bridge.limit;
            case 3: return bridge.shut ? 1 : 0;
            case 4: return bridge.stops;
            case 5: return bridge.failures;
            default: return OUTSIDE;
        }
    }

    private static boolean isOutside(int number, int least, int most) {
        return number < least || number > most;
    }

    private Cart find(int vehicle) {
        if (vehicle < 0 || vehicle >= vehicles.length) {
            return null;
        }
        return vehicles[vehicle];
    }

    private Cart make(int number, int kind, int mass, int load, int share) {
        switch (kind) {
            case WHEELED: return new Wheeled(bridge, number, kind, mass, load, share);
            case CAR: return new Car(bridge, number, kind, mass, load, share);
            case CAB: return new Cab(bridge, number, kind, mass, load, share);
            case LORRY: return new Lorry(bridge, number, kind, mass, load, share);
            case TANKER: return new Tanker(bridge, number, kind, mass, load, share);
            case BUS: return new Bus(bridge, number, kind, mass, load, share);
            case LATE_BUS: return new LateBus(bridge, number, kind, mass, load, share);
            case CYCLE: return new Cycle(bridge, number, kind, mass, load, share);
            default: return new Cart(bridge, number, kind, mass, load, share);
        }
    }

    /** What all VEHICLES of one object share: the BRIDGE, its DECK and the counts. */
    private static final class Bridge {
        final Cart[] deck;
        final int[] begun;
        int onDeck;
        int limit;
        boolean shut;
        int stops;
        int failures;

        Bridge() {
            deck = new Cart[MOST_VEHICLES];
            begun = new int[KINDS];
            onDeck = 0;
            limit = FULL_LIMIT;
            shut = true;
            stops = 0;
            failures = 0;
        }

        Cart at(int place) {
            if (place < 0 || place >= onDeck || place >= deck.length) {
                return null;
            }
            return deck[place];
        }

        void takeOn(Cart vehicle) {
            int place = onDeck;
            if (place >= 0 && place < deck.length) {
                deck[place] = vehicle;
                onDeck = place + 1;
            }
        }

        void letOff(Cart vehicle) {
            int kept = 0;
            for (int i = 0; i < deck.length; i++) {
                Cart next = deck[i];
                deck[i] = null;
                if (next != null && next.number != vehicle.number) {
                    deck[kept] = next;
                    kept++;
                }
            }
            onDeck = kept;
        }

        boolean bearsBus() {
            for (int i = 0; i < deck.length; i++) {
                Cart next = deck[i];
                if (next != null && (next.kind == BUS || next.kind == LATE_BUS)) {
                    return true;
                }
            }
            return false;
        }
    }

    /** KIND 0, and what every VEHICLE has. Each ACT has a RULE here. */
    private static class Cart {
        final Bridge bridge;
        final int number;
        final int kind;
        final int mass;
        final int share;
        int load;
        int place;
        int paid;
        int times;
        int meter;

        Cart(Bridge bridge, int number, int kind, int mass, int load, int share) {
            this.bridge = bridge;
            this.number = number;
            this.kind = kind;
            this.mass = mass;
            this.share = share;
            this.load = load;
            place = ASHORE;
            paid = 0;
            times = 0;
            meter = 0;
        }

        int weightAct() {
            bridge.begun[CART]++;
            return mass;
        }

        int tollAct(int hour) {
            bridge.begun[CART]++;
            return 5 + weightAct() / 100;
        }

        boolean fitAct() {
            bridge.begun[CART]++;
            // The WEIGHTS are asked even if the BRIDGE is open, since asking them counts.
            int loaded = 0;
            for (int i = 0; i < bridge.deck.length; i++) {
                Cart next = bridge.deck[i];
                if (next != null) {
                    loaded += next.weightAct();
                }
            }
            loaded += weightAct();
            return bridge.shut && loaded <= bridge.limit;
        }

        void enterAct(int hour) {
            bridge.begun[CART]++;
            if (!fitAct()) {
                bridge.stops++;
                throw new IllegalStateException("stopped");
            }
            paid += tollAct(hour);
            times++;
            place = ON_DECK;
            bridge.takeOn(this);
        }

        void leaveAct() {
            bridge.begun[CART]++;
            place = ASHORE;
            bridge.letOff(this);
        }

        int rebateAct() {
            bridge.begun[CART]++;
            return share;
        }

        boolean hasAccount() {
            return false;
        }

        int billOf(int hour) {
            int toll = tollAct(hour);
            return toll - toll * rebateAct() / 100;
        }

        int monthOf(int days) {
            return 20 * days + billOf(12);
        }
    }

    /** KIND 1, upon CART: tells no RULE. */
    private static class Wheeled extends Cart {
        Wheeled(Bridge bridge, int number, int kind, int mass, int load, int share) {
            super(bridge, number, kind, mass, load, share);
        }
    }

    /** KIND 2, upon WHEELED. */
    private static class Car extends Wheeled {
        Car(Bridge bridge, int number, int kind, int mass, int load, int share) {
            super(bridge, number, kind, mass, load, share);
        }

        @Override
        int tollAct(int hour) {
            bridge.begun[CAR]++;
            return super.tollAct(hour) + 10;
        }

        @Override
        int rebateAct() {
            bridge.begun[CAR]++;
            return Math.min(super.rebateAct() + 5, WHOLE_SHARE);
        }
    }

    /** KIND 3, upon CAR. */
    private static final class Cab extends Car {
        Cab(Bridge bridge, int number, int kind, int mass, int load, int share) {
            super(bridge, number, kind, mass, load, share);
        }

        @Override
        int tollAct(int hour) {
            bridge.begun[CAB]++;
            int under = super.tollAct(hour);
            if (hour >= 20 || hour < 6) {
                return 2 * under;
            }
            return under + meter;
        }

        @Override
        void enterAct(int hour) {
            bridge.begun[CAB]++;
            meter++;
            super.enterAct(hour);
        }

        @Override
        void leaveAct() {
            bridge.begun[CAB]++;
            super.leaveAct();
            meter = 0;
        }

        @Override
        boolean hasAccount() {
            return true;
        }
    }

    /** KIND 4, upon WHEELED. */
    private static class Lorry extends Wheeled {
        Lorry(Bridge bridge, int number, int kind, int mass, int load, int share) {
            super(bridge, number, kind, mass, load, share);
        }

        @Override
        int weightAct() {
            bridge.begun[LORRY]++;
            return super.weightAct() + load;
        }

        @Override
        void leaveAct() {
            bridge.begun[LORRY]++;
            super.leaveAct();
            load = load / 2;
        }
    }

    /** KIND 5, upon LORRY. */
    private static final class Tanker extends Lorry {
        Tanker(Bridge bridge, int number, int kind, int mass, int load, int share) {
            super(bridge, number, kind, mass, load, share);
        }

        @Override
        int weightAct() {
            bridge.begun[TANKER]++;
            return super.weightAct() + load / 4;
        }

        @Override
        int tollAct(int hour) {
            bridge.begun[TANKER]++;
            return super.tollAct(hour) + 50;
        }

        @Override
        boolean fitAct() {
            bridge.begun[TANKER]++;
            return super.fitAct() && bridge.onDeck == 0;
        }

        @Override
        void enterAct(int hour) {
            bridge.begun[TANKER]++;
            super.enterAct(hour);
            bridge.limit = Math.max(bridge.limit - TANKER_LIMIT, 0);
        }

        @Override
        void leaveAct() {
            bridge.begun[TANKER]++;
            super.leaveAct();
            bridge.limit = Math.min(bridge.limit + TANKER_LIMIT, FULL_LIMIT);
        }
    }

    /** KIND 6, upon LORRY. */
    private static class Bus extends Lorry {
        Bus(Bridge bridge, int number, int kind, int mass, int load, int share) {
            super(bridge, number, kind, mass, load, share);
        }

        @Override
        void enterAct(int hour) {
            bridge.begun[BUS]++;
            load = Math.min(load + BUS_LOAD, MOST_LOAD);
            super.enterAct(hour);
        }

        @Override
        boolean hasAccount() {
            return true;
        }
    }

    /** KIND 7, upon BUS. */
    private static final class LateBus extends Bus {
        LateBus(Bridge bridge, int number, int kind, int mass, int load, int share) {
            super(bridge, number, kind, mass, load, share);
        }

        @Override
        int weightAct() {
            bridge.begun[LATE_BUS]++;
            return super.weightAct() - 10;
        }

        @Override
        int tollAct(int hour) {
            bridge.begun[LATE_BUS]++;
            if (hour >= 22 || hour < 5) {
                return 0;
            }
            return super.tollAct(hour);
        }

        @Override
        boolean fitAct() {
            bridge.begun[LATE_BUS]++;
            return super.fitAct() && !bridge.bearsBus();
        }

        @Override
        int rebateAct() {
            bridge.begun[LATE_BUS]++;
            return Math.min(2 * super.rebateAct(), WHOLE_SHARE);
        }

        @Override
        int monthOf(int days) {
            return 15 * days + billOf(23);
        }
    }

    /** KIND 8, upon CART. */
    private static final class Cycle extends Cart {
        Cycle(Bridge bridge, int number, int kind, int mass, int load, int share) {
            super(bridge, number, kind, mass, load, share);
        }

        @Override
        int tollAct(int hour) {
            bridge.begun[CYCLE]++;
            if (load == 0) {
                bridge.failures++;
                throw new ArithmeticException("no load to divide by");
            }
            return 100 / load;
        }

        @Override
        boolean fitAct() {
            bridge.begun[CYCLE]++;
            return bridge.shut;
        }

        @Override
        void enterAct(int hour) {
            bridge.begun[CYCLE]++;
            boolean again = false;
            try {
                super.enterAct(hour);
            } catch (IllegalStateException stopped) {
                again = true;
            }
            if (again) {
                super.enterAct(hour);
            }
        }
    }
}
