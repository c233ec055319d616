/**
 * A ring of farmers who share machines. What each call promises stands in the document (DOC.md);
 * the comments here tell only what the document leaves to the program.
 */
public final class MachineRing {
    public static final int UNKNOWN = -100000001;
    public static final int BAD_VALUE = -100000002;
    public static final int FULL = -100000003;
    public static final int NOT_POSSIBLE = -100000004;
    public static final int NONE = -100000005;

    private static final int TEXT_FAULT = -100000100;
    private static final int FINE = 0;
    private static final int FARMERS = 6;
    private static final int KINDS = 3;
    private static final int SHEDS = 3;
    private static final int PLACES = 2;
    private static final int MACHINES = 6;
    private static final int MOST_RATE = 99;
    private static final int MOST_LITRES = 500;
    private static final int MOST_COINS = 9999;
    private static final int MOST_DAYS = 60;
    private static final int MOST_SEED = 9999;
    private static final int MOST_STANDING = 30;
    private static final int MOST_HOURS = 12;
    private static final int FARTHEST = 99;
    private static final int COINS_A_LITRE = 2;
    private static final int OPERATOR_COINS = 6;
    private static final int DAYS_A_YEAR = 360;
    private static final int DAYS_A_SEASON = 90;
    private static final int TEXT_ROOM = 60;
    private static final int HISTORY_ROOM = 4;

    private final State now;
    /** What bookAll() goes back to; the history can't serve for that, as it drops its oldest state at once. */
    private final State before;
    private final State snapshot;
    private final History history;
    private final Text text;
    private boolean kept;

    public MachineRing() {
        now = new State();
        before = new State();
        snapshot = new State();
        history = new History();
        text = new Text();
    }

    // ---- machines, farmers

    public int buy(int kind, int shed, int rate) {
        if (outside(shed, 0, SHEDS - 1)) {
            return UNKNOWN;
        }
        if (outside(kind, 0, KINDS - 1) || outside(rate, 1, MOST_RATE)) {
            return BAD_VALUE;
        }
        if (now.machinesIn(shed) >= PLACES) {
            return FULL;
        }
        if (kind != shed) {
            return NOT_POSSIBLE;
        }
        history.push(now);
        return now.addMachine(kind, rate);
    }

    public int license(int farmer, int kinds) {
        Farmer one = now.farmerAt(farmer);
        if (one == null) {
            return UNKNOWN;
        }
        if (outside(kinds, 0, (1 << KINDS) - 1)) {
            return BAD_VALUE;
        }
        int previous = one.licences;
        if (kinds == previous) {
            return NONE;
        }
        history.push(now);
        one.licences = kinds;
        return previous;
    }

    public int setRate(int machine, int rate) {
        Machine one = now.machineAt(machine);
        if (one == null) {
            return UNKNOWN;
        }
        if (outside(rate, 1, MOST_RATE)) {
            return BAD_VALUE;
        }
        int previous = one.rate;
        if (rate == previous) {
            return NONE;
        }
        history.push(now);
        one.rate = rate;
        return previous;
    }

    public int fill(int farmer, int machine, int litres) {
        Farmer filler = now.farmerAt(farmer);
        Machine filled = now.machineAt(machine);
        if (filler == null || filled == null) {
            return UNKNOWN;
        }
        if (outside(litres, 1, MOST_LITRES)) {
            return BAD_VALUE;
        }
        float then = filled.fuel + (float) litres;
        if (then > 600.0f) {
            return FULL;
        }
        history.push(now);
        int coins = COINS_A_LITRE * litres;
        filled.fuel = then;
        filler.litres += litres;
        now.chest -= coins;
        now.fuelCost += coins;
        return coins;
    }

    public int mend(int machine) {
        Machine one = now.machineAt(machine);
        if (one == null) {
            return UNKNOWN;
        }
        if (!one.broken) {
            return NONE;
        }
        history.push(now);
        return now.mendAndShare(one);
    }

    public int pay(int farmer, int coins) {
        Farmer one = now.farmerAt(farmer);
        if (one == null) {
            return UNKNOWN;
        }
        if (outside(coins, 1, MOST_COINS)) {
            return BAD_VALUE;
        }
        history.push(now);
        one.account += coins;
        now.chest += coins;
        now.paid += coins;
        return one.account;
    }

    // ---- bookings, days

    public int book(int farmer, int machine, int in, int hours) {
        int error = now.whyNotBook(farmer, machine, in, hours);
        if (error != FINE) {
            return error;
        }
        history.push(now);
        return now.addBooking(farmer, machine, in, hours);
    }

    public int bookAll() {
        int fault = text.findFault();
        if (fault != Text.NO_FAULT) {
            return TEXT_FAULT - fault;
        }
        before.copyFrom(now);
        int made = 0;
        text.startReading();
        for (int n = 0; n < Text.MOST_BOOKINGS && text.readBooking(); n++) {
            int error = now.whyNotBook(text.farmer, text.machine, text.in, text.hours);
            if (error != FINE) {
                now.copyFrom(before);
                return error;
            }
            now.addBooking(text.farmer, text.machine, text.in, text.hours);
            made++;
            text.takeSign(',');
        }
        history.push(before);
        return made;
    }

    public int takeBack(int booking) {
        int place = now.placeOf(booking);
        if (place < 0) {
            return UNKNOWN;
        }
        history.push(now);
        now.removeBookingAt(place);
        return now.standing;
    }

    public int pass(int days) {
        if (outside(days, 1, MOST_DAYS)) {
            return BAD_VALUE;
        }
        history.push(now);
        int doneBefore = now.done;
        for (int n = 0; n < days; n++) {
            now.passDay();
        }
        return now.done - doneBefore;
    }

    public int set(int which, int value) {
        boolean good = which == 0 ? !outside(value, 10, 200) : which == 1 && !outside(value, 0, 9999);
        if (!good) {
            return BAD_VALUE;
        }
        int previous = which == 0 ? now.breaksAfter : now.mendPrice;
        if (value == previous) {
            return NONE;
        }
        history.push(now);
        if (which == 0) {
            now.breaksAfter = value;
        } else {
            now.mendPrice = value;
        }
        return previous;
    }

    public int setSeed(int seed) {
        if (outside(seed, 0, MOST_SEED)) {
            return BAD_VALUE;
        }
        int previous = now.seed;
        if (seed == previous) {
            return NONE;
        }
        history.push(now);
        now.seed = seed;
        return previous;
    }

    // ---- texts

    public int type(char character) {
        return text.add(character) ? text.length : FULL;
    }

    public int clearText() {
        int previous = text.length;
        text.length = 0;
        return previous;
    }

    // ---- history

    public int undo() {
        State latest = history.takeLatest();
        if (latest == null) {
            return NONE;
        }
        now.copyFrom(latest);
        return history.size;
    }

    public int keep() {
        snapshot.copyFrom(now);
        kept = true;
        return now.day;
    }

    public int restore() {
        if (!kept) {
            return NONE;
        }
        history.push(now);
        now.copyFrom(snapshot);
        return now.day;
    }

    // ---- what is told

    public int farmer(int farmer, int what) {
        Farmer one = now.farmerAt(farmer);
        if (one == null) {
            return UNKNOWN;
        }
        switch (what) {
            case 0: return one.account;
            case 1: return one.licences;
            case 2: return one.hours;
            case 3: return one.litres;
            case 4: return now.standingOf(farmer);
            case 5: return one.charged;
            case 6: return one.mendParts;
            default: return BAD_VALUE;
        }
    }

    public int machine(int machine, int what) {
        Machine one = now.machineAt(machine);
        if (one == null) {
            return UNKNOWN;
        }
        switch (what) {
            case 0: return one.kind;
            case 1: return one.rate;
            case 2: return one.broken ? 1 : 0;
            case 3: return one.hoursSinceMended();
            case 4: return one.hoursSoFar;
            case 5: return one.place;
            case 6: return bitsOf(one.fuel);
            case 7: return one.timesMended;
            default: return BAD_VALUE;
        }
    }

    public float fuel(int machine) {
        Machine one = now.machineAt(machine);
        return one == null ? -1.0f : one.fuel;
    }

    public int hours(int machine, int farmer) {
        Machine one = now.machineAt(machine);
        if (one == null || outside(farmer, 0, FARMERS - 1)) {
            return UNKNOWN;
        }
        return one.hoursOf(farmer);
    }

    public int booking(int booking, int what) {
        Booking one = now.bookingAt(now.placeOf(booking));
        if (one == null) {
            return UNKNOWN;
        }
        switch (what) {
            case 0: return one.farmer;
            case 1: return one.machine;
            case 2: return one.day;
            case 3: return one.hours;
            case 4: return one.timesPutOff;
            case 5: return now.chargeOf(one);
            default: return BAD_VALUE;
        }
    }

    public int booked(int machine, int in) {
        if (now.machineAt(machine) == null) {
            return UNKNOWN;
        }
        if (outside(in, 1, FARTHEST)) {
            return BAD_VALUE;
        }
        return now.hoursOn(machine, now.day + in);
    }

    public int wet(int in) {
        if (outside(in, 0, FARTHEST)) {
            return BAD_VALUE;
        }
        return now.isWet(now.day + in) ? 1 : 0;
    }

    public int most(int machine) {
        Machine one = now.machineAt(machine);
        return one == null ? UNKNOWN : one.bestFarmer();
    }

    public int lasts(int machine) {
        Machine one = now.machineAt(machine);
        return one == null ? UNKNOWN : now.daysOfFuel(machine, one);
    }

    public int count(int what) {
        switch (what) {
            case 0: return now.day;
            case 1: return seasonOf(now.day);
            case 2: return now.machineCount;
            case 3: return now.standing;
            case 4: return now.made;
            case 5: return now.done;
            case 6: return now.putOffs;
            case 7: return now.chest;
            case 8: return now.sumOfAccounts();
            case 9: return now.breaksAfter;
            case 10: return now.mendPrice;
            case 11: return now.seed;
            case 12: return now.brokenMachines();
            case 13: return history.size;
            case 14: return text.length;
            case 15: return now.mendCost;
            case 16: return now.fuelCost;
            case 17: return now.paid;
            default: return BAD_VALUE;
        }
    }

    // ---- rules that need no state

    private static boolean outside(int value, int lowest, int highest) {
        return value < lowest || value > highest;
    }

    private static int seasonOf(int day) {
        return day % DAYS_A_YEAR / DAYS_A_SEASON;
    }

    private static float factorOf(int season) {
        switch (season) {
            case 0: return 1.0f;
            case 1: return 1.5f;
            case 2: return 1.25f;
            default: return 0.5f;
        }
    }

    private static float useOf(int kind) {
        switch (kind) {
            case 0: return 8.5f;
            case 1: return 5.25f;
            default: return 20.75f;
        }
    }

    /** Fuel is 0 or at least a quarter litre, so that neither signs nor tiny exponents come here. */
    private static int bitsOf(float fuel) {
        if (fuel <= 0.0f) {
            return 0;
        }
        int exponent = 127;
        float rest = fuel;
        for (int n = 0; n < 126 && rest >= 2.0f; n++) {
            rest = rest * 0.5f;
            exponent++;
        }
        for (int n = 0; n < 126 && rest < 1.0f; n++) {
            rest = rest * 2.0f;
            exponent--;
        }
        return exponent << 23 | (int) ((rest - 1.0f) * 8388608.0f);
    }

    private static final class Farmer {
        int account;
        int licences;
        int hours;
        int litres;
        int charged;
        int mendParts;

        Farmer() {
            licences = 1;
        }

        void copyFrom(Farmer other) {
            account = other.account;
            licences = other.licences;
            hours = other.hours;
            litres = other.litres;
            charged = other.charged;
            mendParts = other.mendParts;
        }

        boolean mayDrive(int kind) {
            return (licences >> kind & 1) == 1;
        }

        void charge(int coins) {
            account -= coins;
            charged += coins;
        }

        void bearMending(int coins) {
            account -= coins;
            mendParts += coins;
        }
    }

    private static final class Machine {
        int kind;
        int rate;
        int place;
        float fuel;
        boolean broken;
        int hoursSoFar;
        int timesMended;
        final int[] hoursBy;

        Machine() {
            hoursBy = new int[FARMERS];
        }

        /** The rows of a state are used again, so that a machine that comes must not keep what an undone one left. */
        void begin(int itsKind, int itsRate, int itsPlace) {
            kind = itsKind;
            rate = itsRate;
            place = itsPlace;
            fuel = 0.0f;
            broken = false;
            hoursSoFar = 0;
            timesMended = 0;
            forgetHours();
        }

        void copyFrom(Machine other) {
            kind = other.kind;
            rate = other.rate;
            place = other.place;
            fuel = other.fuel;
            broken = other.broken;
            hoursSoFar = other.hoursSoFar;
            timesMended = other.timesMended;
            for (int i = 0; i < hoursBy.length; i++) {
                hoursBy[i] = other.hoursOf(i);
            }
        }

        void forgetHours() {
            for (int i = 0; i < hoursBy.length; i++) {
                hoursBy[i] = 0;
            }
        }

        int hoursOf(int farmer) {
            return farmer >= 0 && farmer < hoursBy.length ? hoursBy[farmer] : 0;
        }

        int hoursSinceMended() {
            int sum = 0;
            for (int i = 0; i < hoursBy.length; i++) {
                sum += hoursBy[i];
            }
            return sum;
        }

        int bestFarmer() {
            int best = NONE;
            int bestHours = 0;
            for (int i = 0; i < hoursBy.length; i++) {
                if (hoursBy[i] > bestHours) {
                    best = i;
                    bestHours = hoursBy[i];
                }
            }
            return best;
        }

        float fuelFor(int hours) {
            return (float) hours * useOf(kind);
        }

        void work(int farmer, int hours, int breaksAfter) {
            fuel = fuel - fuelFor(hours);
            hoursSoFar += hours;
            if (farmer >= 0 && farmer < hoursBy.length) {
                hoursBy[farmer] += hours;
            }
            if (hoursSinceMended() >= breaksAfter) {
                broken = true;
            }
        }
    }

    private static final class Booking {
        int number;
        int farmer;
        int machine;
        int day;
        int hours;
        int timesPutOff;

        void copyFrom(Booking other) {
            number = other.number;
            farmer = other.farmer;
            machine = other.machine;
            day = other.day;
            hours = other.hours;
            timesPutOff = other.timesPutOff;
        }

        boolean isFor(int itsMachine, int itsDay) {
            return machine == itsMachine && day == itsDay;
        }
    }

    /** All that undo() and restore() bring back. Its rows are made once; those behind the counts are spare. */
    private static final class State {
        final Farmer[] farmers;
        final Machine[] machines;
        final Booking[] bookings;
        int machineCount;
        int standing;
        int day;
        int made;
        int done;
        int putOffs;
        int chest;
        int breaksAfter;
        int mendPrice;
        int seed;
        int mendCost;
        int fuelCost;
        int paid;

        State() {
            farmers = new Farmer[FARMERS];
            for (int i = 0; i < farmers.length; i++) {
                farmers[i] = new Farmer();
            }
            machines = new Machine[MACHINES];
            for (int i = 0; i < machines.length; i++) {
                machines[i] = new Machine();
            }
            bookings = new Booking[MOST_STANDING];
            for (int i = 0; i < bookings.length; i++) {
                bookings[i] = new Booking();
            }
            breaksAfter = 40;
            mendPrice = 300;
        }

        void copyFrom(State other) {
            copyNumbers(other);
            for (int i = 0; i < FARMERS; i++) {
                Farmer to = farmerAt(i);
                Farmer from = other.farmerAt(i);
                if (to != null && from != null) {
                    to.copyFrom(from);
                }
            }
            for (int i = 0; i < machineCount; i++) {
                Machine to = machineAt(i);
                Machine from = other.machineAt(i);
                if (to != null && from != null) {
                    to.copyFrom(from);
                }
            }
            for (int i = 0; i < standing; i++) {
                Booking to = bookingAt(i);
                Booking from = other.bookingAt(i);
                if (to != null && from != null) {
                    to.copyFrom(from);
                }
            }
        }

        void copyNumbers(State other) {
            machineCount = other.machineCount;
            standing = other.standing;
            day = other.day;
            made = other.made;
            done = other.done;
            putOffs = other.putOffs;
            chest = other.chest;
            breaksAfter = other.breaksAfter;
            mendPrice = other.mendPrice;
            seed = other.seed;
            mendCost = other.mendCost;
            fuelCost = other.fuelCost;
            paid = other.paid;
        }

        /** These three answer null where there is no such one: callers ask by numbers that come from outside. */
        Farmer farmerAt(int farmer) {
            return farmer >= 0 && farmer < farmers.length ? farmers[farmer] : null;
        }

        Machine machineAt(int machine) {
            return machine >= 0 && machine < machineCount && machine < machines.length ? machines[machine] : null;
        }

        Booking bookingAt(int place) {
            return place >= 0 && place < standing && place < bookings.length ? bookings[place] : null;
        }

        int placeOf(int booking) {
            for (int i = 0; i < standing; i++) {
                Booking one = bookingAt(i);
                if (one != null && one.number == booking) {
                    return i;
                }
            }
            return -1;
        }

        int machinesIn(int shed) {
            int sum = 0;
            for (int i = 0; i < machineCount; i++) {
                Machine one = machineAt(i);
                if (one != null && one.kind == shed) {
                    sum++;
                }
            }
            return sum;
        }

        int addMachine(int kind, int rate) {
            int place = machinesIn(kind);
            machineCount++;
            Machine added = machineAt(machineCount - 1);
            if (added == null) {
                machineCount--;
                return FULL;
            }
            added.begin(kind, rate, place);
            return machineCount - 1;
        }

        int mendAndShare(Machine one) {
            int all = one.hoursSinceMended();
            int left = mendPrice;
            for (int i = 0; i < FARMERS; i++) {
                Farmer bearer = farmerAt(i);
                if (bearer != null && all > 0) {
                    int part = mendPrice * one.hoursOf(i) / all;
                    bearer.bearMending(part);
                    left -= part;
                }
            }
            chest -= mendPrice;
            mendCost += mendPrice;
            one.forgetHours();
            one.broken = false;
            one.timesMended++;
            return left;
        }

        int whyNotBook(int farmer, int machine, int in, int hours) {
            if (farmerAt(farmer) == null || machineAt(machine) == null) {
                return UNKNOWN;
            }
            if (outside(in, 1, FARTHEST) || outside(hours, 1, MOST_HOURS)) {
                return BAD_VALUE;
            }
            if (standing >= MOST_STANDING) {
                return FULL;
            }
            return hoursOn(machine, day + in) + hours > MOST_HOURS ? NOT_POSSIBLE : FINE;
        }

        int addBooking(int farmer, int machine, int in, int hours) {
            standing++;
            Booking added = bookingAt(standing - 1);
            if (added == null) {
                standing--;
                return FULL;
            }
            added.number = made;
            added.farmer = farmer;
            added.machine = machine;
            added.day = day + in;
            added.hours = hours;
            added.timesPutOff = 0;
            made++;
            return added.number;
        }

        /** The removed row changes places with all behind it, so that it is spare then and can be used again. */
        void removeBookingAt(int place) {
            if (place < 0 || place >= standing) {
                return;
            }
            for (int i = place + 1; i < standing && i < bookings.length; i++) {
                Booking removed = bookings[i - 1];
                bookings[i - 1] = bookings[i];
                bookings[i] = removed;
            }
            standing--;
        }

        int hoursOn(int machine, int itsDay) {
            int sum = 0;
            for (int i = 0; i < standing; i++) {
                Booking one = bookingAt(i);
                if (one != null && one.isFor(machine, itsDay)) {
                    sum += one.hours;
                }
            }
            return sum;
        }

        int standingOf(int farmer) {
            int sum = 0;
            for (int i = 0; i < standing; i++) {
                Booking one = bookingAt(i);
                if (one != null && one.farmer == farmer) {
                    sum++;
                }
            }
            return sum;
        }

        int sumOfAccounts() {
            int sum = 0;
            for (int i = 0; i < FARMERS; i++) {
                Farmer one = farmerAt(i);
                if (one != null) {
                    sum += one.account;
                }
            }
            return sum;
        }

        int brokenMachines() {
            int sum = 0;
            for (int i = 0; i < machineCount; i++) {
                Machine one = machineAt(i);
                if (one != null && one.broken) {
                    sum++;
                }
            }
            return sum;
        }

        boolean isWet(int itsDay) {
            return (421 * (itsDay + seed) + 1663) % 10000 / 16 % 4 == 0;
        }

        int chargeOf(Booking one) {
            Machine machine = machineAt(one.machine);
            Farmer farmer = farmerAt(one.farmer);
            if (machine == null || farmer == null) {
                return 0;
            }
            int charge = (int) ((float) (one.hours * machine.rate) * factorOf(seasonOf(one.day)));
            return farmer.mayDrive(machine.kind) ? charge : charge + OPERATOR_COINS * one.hours;
        }

        /** A booking that is done leaves its place to the next one, so that the place then stays. */
        void passDay() {
            day++;
            int turns = standing;
            int place = 0;
            for (int n = 0; n < turns; n++) {
                if (!settle(place)) {
                    place++;
                }
            }
        }

        boolean settle(int place) {
            Booking one = bookingAt(place);
            if (one == null || one.day != day) {
                return false;
            }
            Machine machine = machineAt(one.machine);
            Farmer farmer = farmerAt(one.farmer);
            if (machine == null || farmer == null) {
                return false;
            }
            if (!canWork(machine, one.hours)) {
                putOff(one);
                return false;
            }
            farmer.charge(chargeOf(one));
            farmer.hours += one.hours;
            machine.work(one.farmer, one.hours, breaksAfter);
            done++;
            removeBookingAt(place);
            return true;
        }

        boolean canWork(Machine machine, int hours) {
            boolean stopped = machine.kind != 0 && isWet(day);
            return !stopped && !machine.broken && machine.fuel >= machine.fuelFor(hours);
        }

        /** At most 29 other bookings stand, so that one of the next 30 days always has room. */
        void putOff(Booking one) {
            one.timesPutOff++;
            putOffs++;
            for (int in = 1; in <= MOST_STANDING; in++) {
                if (hoursOn(one.machine, day + in) + one.hours <= MOST_HOURS) {
                    one.day = day + in;
                    return;
                }
            }
        }

        int daysOfFuel(int machine, Machine its) {
            float left = its.fuel;
            for (int in = 1; in <= FARTHEST; in++) {
                for (int i = 0; i < standing; i++) {
                    Booking one = bookingAt(i);
                    if (one != null && one.isFor(machine, day + in)) {
                        if (left < its.fuelFor(one.hours)) {
                            return in;
                        }
                        left = left - its.fuelFor(one.hours);
                    }
                }
            }
            return NONE;
        }
    }

    private static final class History {
        final State[] states;
        int size;

        History() {
            states = new State[HISTORY_ROOM];
            for (int i = 0; i < states.length; i++) {
                states[i] = new State();
            }
        }

        State stateAt(int place) {
            return place >= 0 && place < states.length ? states[place] : null;
        }

        void push(State state) {
            if (size >= states.length) {
                dropOldest();
            }
            State free = stateAt(size);
            if (free != null) {
                free.copyFrom(state);
                size++;
            }
        }

        /** The row of the oldest state goes to the end, to be written over. */
        void dropOldest() {
            for (int i = 1; i < states.length; i++) {
                State oldest = states[i - 1];
                states[i - 1] = states[i];
                states[i] = oldest;
            }
            size--;
        }

        /** Answers null where the history is empty. */
        State takeLatest() {
            State latest = stateAt(size - 1);
            if (latest != null) {
                size--;
            }
            return latest;
        }
    }

    /** The text, and the booking that was read from it last. */
    private static final class Text {
        static final int NO_FAULT = -1;
        static final int NO_DIGIT = -1;
        /** Seven bookings fill 55 signs; the fault of a longer text lies in an eighth one, which no text ends. */
        static final int MOST_BOOKINGS = 8;

        final char[] signs;
        int length;
        int at;
        int farmer;
        int machine;
        int in;
        int hours;

        Text() {
            signs = new char[TEXT_ROOM];
        }

        boolean add(char sign) {
            if (length < 0 || length >= signs.length) {
                return false;
            }
            signs[length] = sign;
            length++;
            return true;
        }

        void startReading() {
            at = 0;
        }

        /** Where a part can't be read, the reading stays at the sign that is not allowed: that is the fault. */
        int findFault() {
            startReading();
            for (int n = 0; n < MOST_BOOKINGS; n++) {
                if (!readBooking()) {
                    return at;
                }
                if (at >= length) {
                    return NO_FAULT;
                }
                if (!takeSign(',')) {
                    return at;
                }
            }
            return at;
        }

        boolean readBooking() {
            farmer = takeDigit(0, FARMERS - 1);
            if (farmer == NO_DIGIT || !takeSign('m')) {
                return false;
            }
            machine = takeDigit(0, MACHINES - 1);
            if (machine == NO_DIGIT || !takeSign('+')) {
                return false;
            }
            in = takeNumber(FARTHEST);
            if (in == NO_DIGIT || !takeSign('h')) {
                return false;
            }
            hours = takeNumber(MOST_HOURS);
            return hours != NO_DIGIT;
        }

        /** Behind the end it answers -1, which is no sign and no digit. */
        int nextSign() {
            return at >= 0 && at < length && at < signs.length ? signs[at] : -1;
        }

        boolean takeSign(char sign) {
            if (nextSign() != sign) {
                return false;
            }
            at++;
            return true;
        }

        int takeDigit(int lowest, int highest) {
            int digit = nextSign() - '0';
            if (outside(digit, lowest, highest)) {
                return NO_DIGIT;
            }
            at++;
            return digit;
        }

        /** No number of a text has more than two digits. A digit that would be too much is left unread. */
        int takeNumber(int highest) {
            int first = takeDigit(1, 9);
            if (first == NO_DIGIT) {
                return NO_DIGIT;
            }
            int second = takeDigit(0, Math.min(9, highest - 10 * first));
            return second == NO_DIGIT ? first : 10 * first + second;
        }
    }
}
