import java.util.ArrayDeque;
import java.util.ArrayList;
import java.util.Comparator;
import java.util.Deque;
import java.util.List;
import java.util.TreeMap;
import java.util.regex.Matcher;
import java.util.regex.Pattern;

/**
 * The document once more, written in another way than the program, for ModelTests: states are copied whole and
 * never used again, fuel is counted in quarters of a litre, faults are found by a regular expression.
 */
final class PlainRing {
    private static final Pattern TEXT = Pattern.compile(
            "[0-5]m[0-5]\\+[1-9][0-9]?h(1[0-2]|[1-9])(,[0-5]m[0-5]\\+[1-9][0-9]?h(1[0-2]|[1-9]))*");
    private static final int[] QUARTERS_AN_HOUR = {34, 21, 83};
    private static final int[] QUARTERS_OF_FACTOR = {4, 6, 5, 2};

    private record Booking(int number, int farmer, int machine, int day, int hours, int putOff) {
        Booking on(int later) {
            return new Booking(number, farmer, machine, later, hours, putOff + 1);
        }
    }

    private static final class Machine {
        int kind;
        int rate;
        int place;
        int quarters;
        boolean broken;
        int hoursSoFar;
        int mended;
        int[] by = new int[6];

        Machine copy() {
            Machine copy = new Machine();
            copy.kind = kind;
            copy.rate = rate;
            copy.place = place;
            copy.quarters = quarters;
            copy.broken = broken;
            copy.hoursSoFar = hoursSoFar;
            copy.mended = mended;
            copy.by = by.clone();
            return copy;
        }

        int since() {
            int sum = 0;
            for (int hours : by) {
                sum += hours;
            }
            return sum;
        }
    }

    private static final class State {
        /** By farmers: account, licences, hours, litres, (not used), charged, parts of mending. */
        int[][] farmers = new int[6][7];
        List<Machine> machines = new ArrayList<>();
        TreeMap<Integer, Booking> bookings = new TreeMap<>();
        /** As count() tells them; those that it works out stay 0. */
        int[] counts = new int[18];

        State copy() {
            State copy = new State();
            for (int farmer = 0; farmer < 6; farmer++) {
                copy.farmers[farmer] = farmers[farmer].clone();
            }
            for (Machine machine : machines) {
                copy.machines.add(machine.copy());
            }
            copy.bookings = new TreeMap<>(bookings);
            copy.counts = counts.clone();
            return copy;
        }
    }

    private State now = new State();
    private State snapshot = null;
    private final Deque<State> history = new ArrayDeque<>();
    private String text = "";

    PlainRing() {
        for (int[] farmer : now.farmers) {
            farmer[1] = 1;
        }
        now.counts[9] = 40;
        now.counts[10] = 300;
    }

    private void record(State state) {
        history.addLast(state.copy());
        if (history.size() > 4) {
            history.removeFirst();
        }
    }

    private boolean noFarmer(int farmer) {
        return farmer < 0 || farmer > 5;
    }

    private boolean noMachine(int machine) {
        return machine < 0 || machine >= now.machines.size();
    }

    int buy(int kind, int shed, int rate) {
        if (shed < 0 || shed > 2) {
            return Rings.UNKNOWN;
        }
        if (kind < 0 || kind > 2 || rate < 1 || rate > 99) {
            return Rings.BAD_VALUE;
        }
        int there = (int) now.machines.stream().filter(m -> m.kind == shed).count();
        if (there == 2) {
            return Rings.FULL;
        }
        if (shed != kind) {
            return Rings.NOT_POSSIBLE;
        }
        record(now);
        Machine machine = new Machine();
        machine.kind = kind;
        machine.rate = rate;
        machine.place = there;
        now.machines.add(machine);
        return now.machines.size() - 1;
    }

    int license(int farmer, int kinds) {
        if (noFarmer(farmer)) {
            return Rings.UNKNOWN;
        }
        if ((kinds & ~7) != 0) {
            return Rings.BAD_VALUE;
        }
        int previous = now.farmers[farmer][1];
        if (previous == kinds) {
            return Rings.NONE;
        }
        record(now);
        now.farmers[farmer][1] = kinds;
        return previous;
    }

    int setRate(int machine, int rate) {
        if (noMachine(machine)) {
            return Rings.UNKNOWN;
        }
        if (rate < 1 || rate > 99) {
            return Rings.BAD_VALUE;
        }
        int previous = now.machines.get(machine).rate;
        if (previous == rate) {
            return Rings.NONE;
        }
        record(now);
        now.machines.get(machine).rate = rate;
        return previous;
    }

    int fill(int farmer, int machine, int litres) {
        if (noFarmer(farmer) || noMachine(machine)) {
            return Rings.UNKNOWN;
        }
        if (litres < 1 || litres > 500) {
            return Rings.BAD_VALUE;
        }
        if (now.machines.get(machine).quarters + 4 * litres > 2400) {
            return Rings.FULL;
        }
        record(now);
        now.machines.get(machine).quarters += 4 * litres;
        now.farmers[farmer][3] += litres;
        now.counts[7] -= 2 * litres;
        now.counts[16] += 2 * litres;
        return 2 * litres;
    }

    int mend(int machine) {
        if (noMachine(machine)) {
            return Rings.UNKNOWN;
        }
        if (!now.machines.get(machine).broken) {
            return Rings.NONE;
        }
        record(now);
        Machine mended = now.machines.get(machine);
        int cost = now.counts[10];
        int borne = 0;
        for (int farmer = 0; farmer < 6; farmer++) {
            int part = cost * mended.by[farmer] / mended.since();
            now.farmers[farmer][0] -= part;
            now.farmers[farmer][6] += part;
            borne += part;
        }
        now.counts[7] -= cost;
        now.counts[15] += cost;
        mended.by = new int[6];
        mended.broken = false;
        mended.mended++;
        return cost - borne;
    }

    int pay(int farmer, int coins) {
        if (noFarmer(farmer)) {
            return Rings.UNKNOWN;
        }
        if (coins < 1 || coins > 9999) {
            return Rings.BAD_VALUE;
        }
        record(now);
        now.counts[7] += coins;
        now.counts[17] += coins;
        return now.farmers[farmer][0] += coins;
    }

    private int hoursOn(int machine, int day) {
        return now.bookings.values().stream().filter(b -> b.machine == machine && b.day == day)
                .mapToInt(Booking::hours).sum();
    }

    private int bookUnrecorded(int farmer, int machine, int in, int hours) {
        if (noFarmer(farmer) || noMachine(machine)) {
            return Rings.UNKNOWN;
        }
        if (in < 1 || in > 99 || hours < 1 || hours > 12) {
            return Rings.BAD_VALUE;
        }
        if (now.bookings.size() == 30) {
            return Rings.FULL;
        }
        int day = now.counts[0] + in;
        if (hoursOn(machine, day) + hours > 12) {
            return Rings.NOT_POSSIBLE;
        }
        int number = now.counts[4]++;
        now.bookings.put(number, new Booking(number, farmer, machine, day, hours, 0));
        return number;
    }

    int book(int farmer, int machine, int in, int hours) {
        State before = now.copy();
        int answer = bookUnrecorded(farmer, machine, in, hours);
        if (answer >= 0) {
            record(before);
        }
        return answer;
    }

    /** The longest beginning that can become a text of bookings ends at the fault. */
    private int fault() {
        if (TEXT.matcher(text).matches()) {
            return -1;
        }
        for (int end = text.length(); end > 0; end--) {
            Matcher matcher = TEXT.matcher(text.substring(0, end));
            if (matcher.matches() || matcher.hitEnd()) {
                return end;
            }
        }
        return 0;
    }

    int bookAll() {
        int fault = fault();
        if (fault >= 0) {
            return Rings.TEXT_FAULT - fault;
        }
        State before = now.copy();
        String[] parts = text.split(",");
        for (String part : parts) {
            String[] numbers = part.split("[m+h]");
            int answer = bookUnrecorded(Integer.parseInt(numbers[0]), Integer.parseInt(numbers[1]),
                    Integer.parseInt(numbers[2]), Integer.parseInt(numbers[3]));
            if (answer < 0) {
                now = before;
                return answer;
            }
        }
        record(before);
        return parts.length;
    }

    int takeBack(int booking) {
        if (!now.bookings.containsKey(booking)) {
            return Rings.UNKNOWN;
        }
        record(now);
        now.bookings.remove(booking);
        return now.bookings.size();
    }

    private boolean isWet(int day) {
        return ((421 * (day + now.counts[11]) + 1663) % 10000) / 16 % 4 == 0;
    }

    private int charge(Booking booking) {
        Machine machine = now.machines.get(booking.machine);
        int season = booking.day % 360 / 90;
        int coins = booking.hours * machine.rate * QUARTERS_OF_FACTOR[season] / 4;
        boolean drives = (now.farmers[booking.farmer][1] & 1 << machine.kind) != 0;
        return drives ? coins : coins + 6 * booking.hours;
    }

    private void settle(Booking booking) {
        Machine machine = now.machines.get(booking.machine);
        int day = now.counts[0];
        int need = booking.hours * QUARTERS_AN_HOUR[machine.kind];
        if (machine.kind > 0 && isWet(day) || machine.broken || machine.quarters < need) {
            int later = day + 1;
            while (hoursOn(booking.machine, later) + booking.hours > 12) {
                later++;
            }
            now.bookings.put(booking.number, booking.on(later));
            now.counts[6]++;
            return;
        }
        int charge = charge(booking);
        now.farmers[booking.farmer][0] -= charge;
        now.farmers[booking.farmer][5] += charge;
        now.farmers[booking.farmer][2] += booking.hours;
        machine.quarters -= need;
        machine.by[booking.farmer] += booking.hours;
        machine.hoursSoFar += booking.hours;
        machine.broken = machine.since() >= now.counts[9];
        now.bookings.remove(booking.number);
        now.counts[5]++;
    }

    int pass(int days) {
        if (days < 1 || days > 60) {
            return Rings.BAD_VALUE;
        }
        record(now);
        int before = now.counts[5];
        for (int n = 0; n < days; n++) {
            now.counts[0]++;
            for (Booking booking : new ArrayList<>(now.bookings.values())) {
                if (booking.day == now.counts[0]) {
                    settle(booking);
                }
            }
        }
        return now.counts[5] - before;
    }

    int set(int which, int value) {
        if (which < 0 || which > 1 || value < (which == 0 ? 10 : 0) || value > (which == 0 ? 200 : 9999)) {
            return Rings.BAD_VALUE;
        }
        return change(9 + which, value);
    }

    int setSeed(int seed) {
        return seed < 0 || seed > 9999 ? Rings.BAD_VALUE : change(11, seed);
    }

    private int change(int count, int value) {
        int previous = now.counts[count];
        if (previous == value) {
            return Rings.NONE;
        }
        record(now);
        now.counts[count] = value;
        return previous;
    }

    int type(char character) {
        if (text.length() == 60) {
            return Rings.FULL;
        }
        text += character;
        return text.length();
    }

    int clearText() {
        int previous = text.length();
        text = "";
        return previous;
    }

    int undo() {
        if (history.isEmpty()) {
            return Rings.NONE;
        }
        now = history.removeLast();
        return history.size();
    }

    int keep() {
        snapshot = now.copy();
        return now.counts[0];
    }

    int restore() {
        if (snapshot == null) {
            return Rings.NONE;
        }
        record(now);
        now = snapshot.copy();
        return now.counts[0];
    }

    int farmer(int farmer, int what) {
        if (noFarmer(farmer)) {
            return Rings.UNKNOWN;
        }
        if (what < 0 || what > 6) {
            return Rings.BAD_VALUE;
        }
        return what == 4 ? (int) now.bookings.values().stream().filter(b -> b.farmer == farmer).count()
                : now.farmers[farmer][what];
    }

    int machine(int machine, int what) {
        if (noMachine(machine)) {
            return Rings.UNKNOWN;
        }
        Machine one = now.machines.get(machine);
        int[] told = {one.kind, one.rate, one.broken ? 1 : 0, one.since(), one.hoursSoFar, one.place,
            Float.floatToIntBits(fuel(machine)), one.mended};
        return what < 0 || what >= told.length ? Rings.BAD_VALUE : told[what];
    }

    float fuel(int machine) {
        return noMachine(machine) ? -1.0f : now.machines.get(machine).quarters / 4.0f;
    }

    int hours(int machine, int farmer) {
        return noMachine(machine) || noFarmer(farmer) ? Rings.UNKNOWN : now.machines.get(machine).by[farmer];
    }

    int booking(int booking, int what) {
        Booking one = now.bookings.get(booking);
        if (one == null) {
            return Rings.UNKNOWN;
        }
        int[] told = {one.farmer, one.machine, one.day, one.hours, one.putOff, charge(one)};
        return what < 0 || what >= told.length ? Rings.BAD_VALUE : told[what];
    }

    int booked(int machine, int in) {
        if (noMachine(machine)) {
            return Rings.UNKNOWN;
        }
        return in < 1 || in > 99 ? Rings.BAD_VALUE : hoursOn(machine, now.counts[0] + in);
    }

    int wet(int in) {
        return in < 0 || in > 99 ? Rings.BAD_VALUE : isWet(now.counts[0] + in) ? 1 : 0;
    }

    int most(int machine) {
        if (noMachine(machine)) {
            return Rings.UNKNOWN;
        }
        Machine one = now.machines.get(machine);
        int best = 5;
        for (int farmer = 4; farmer >= 0; farmer--) {
            best = one.by[farmer] >= one.by[best] ? farmer : best;
        }
        return one.by[best] == 0 ? Rings.NONE : best;
    }

    int lasts(int machine) {
        if (noMachine(machine)) {
            return Rings.UNKNOWN;
        }
        List<Booking> sorted = new ArrayList<>(now.bookings.values());
        sorted.sort(Comparator.comparingInt(Booking::day).thenComparingInt(Booking::number));
        Machine one = now.machines.get(machine);
        int left = one.quarters;
        for (Booking booking : sorted) {
            if (booking.machine == machine) {
                left -= booking.hours * QUARTERS_AN_HOUR[one.kind];
                if (left < 0) {
                    return booking.day - now.counts[0];
                }
            }
        }
        return Rings.NONE;
    }

    int count(int what) {
        switch (what) {
            case 1: return now.counts[0] / 90 % 4;
            case 2: return now.machines.size();
            case 3: return now.bookings.size();
            case 8: return java.util.Arrays.stream(now.farmers).mapToInt(farmer -> farmer[0]).sum();
            case 12: return (int) now.machines.stream().filter(machine -> machine.broken).count();
            case 13: return history.size();
            case 14: return text.length();
            default: return what < 0 || what > 17 ? Rings.BAD_VALUE : now.counts[what];
        }
    }
}
