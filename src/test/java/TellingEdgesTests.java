import java.util.function.ToIntFunction;

/** The edges of promises 19 to 28, what is told: a test a sentence. */
public final class TellingEdgesTests {
    private static final Checks CHECKS = new Checks();
    private static final int LEAST = Integer.MIN_VALUE;
    private static final int MOST = Integer.MAX_VALUE;

    public static void main(String[] args) {
        farmer();
        machine();
        fuel();
        hours();
        booking();
        booked();
        bookedOnEdges();
        wet();
        most();
        mostOfSeveral();
        lasts();
        lastsExactly();
        lastsInOrder();
        count();
        tellingChangesNothing();
        CHECKS.end();
    }

    private static final int[] NO_MACHINES = {LEAST, -1, 4, 5, 6, MOST};
    private static final int[] NO_FARMERS = {LEAST, -1, 6, MOST};

    private interface Told {
        int of(MachineRing ring, int number);
    }

    /** Each of the numbers is refused by Rings.busy(), which has the machines 0 to 3. */
    private static void refusedFor(String call, int want, int[] numbers, Told told) {
        for (int number : numbers) {
            CHECKS.refused(call + " of " + number, want, r -> told.of(r, number));
        }
    }

    private static void unknownToAnEmptyRing(String call, ToIntFunction<MachineRing> told) {
        CHECKS.refused(MachineRing::new, call + " of an empty ring", Rings.UNKNOWN, told);
    }

    // ---- promise 19

    private static void farmer() {
        CHECKS.promise(19, "farmer: 0 to 5");
        CHECKS.due("farmer 0", Rings.busy().farmer(0, 2), 10);
        CHECKS.due("farmer 5", Rings.full().farmer(5, 3), 600);
        refusedFor("farmer(, 0)", Rings.UNKNOWN, NO_FARMERS, (r, number) -> r.farmer(number, 0));

        CHECKS.promise(19, "what: 0 for the account, 1 for the licences, 2 for the hours so far");
        MachineRing ring = Rings.busy();
        CHECKS.dueRow("farmer 0", what -> ring.farmer(0, what), -200, 1, 10, 100, 0, 200, 0, Rings.BAD_VALUE);
        CHECKS.dueRow("farmer 1", what -> ring.farmer(1, what), -224, 1, 4, 200, 1, 224, 0, Rings.BAD_VALUE);
        CHECKS.dueRow("farmer 5", what -> ring.farmer(5, what), 0, 1, 0, 0, 0, 0, 0, Rings.BAD_VALUE);
        int[] wrong = {LEAST, -1, 7, 8, MOST};
        refusedFor("farmer(0, )", Rings.BAD_VALUE, wrong, (r, number) -> r.farmer(0, number));

        CHECKS.promise(19, "4 for the bookings that stand, 5 for what was charged so far, 6 for the parts of mending so far");
        MachineRing full = Rings.full();
        CHECKS.dueRow("bookings", farmer -> full.farmer(farmer, 4), 5, 5, 5, 5, 5, 5);
        full.takeBack(1);
        CHECKS.dueRow("bookings", farmer -> full.farmer(farmer, 4), 4, 5, 5, 5, 5, 5);
        full.pay(2, 100);
        full.mend(0);
        CHECKS.dueRow("farmer 2", what -> full.farmer(2, what), -12 + 100 - 300, 1, 12, 702, 5, 12, 300);

        CHECKS.promise(19, "Returns the number; UNKNOWN; BAD_VALUE");
        CHECKS.refused("UNKNOWN ahead of BAD_VALUE", Rings.UNKNOWN, r -> r.farmer(6, 7));
        CHECKS.refused("UNKNOWN ahead of BAD_VALUE", Rings.UNKNOWN, r -> r.farmer(-1, -1));
    }

    // ---- promises 20 and 21

    private static void machine() {
        CHECKS.promise(20, "machine: a machine");
        CHECKS.due("machine 0", Rings.busy().machine(0, 1), 20);
        CHECKS.due("machine 3", Rings.busy().machine(3, 1), 10);
        CHECKS.due("machine 5 of six", Rings.full().machine(5, 1), 6);
        CHECKS.due("machine 6 of six", Rings.full().machine(6, 1), Rings.UNKNOWN);
        refusedFor("machine(, 0)", Rings.UNKNOWN, NO_MACHINES, (r, number) -> r.machine(number, 0));
        unknownToAnEmptyRing("machine(0, 0)", r -> r.machine(0, 0));

        CHECKS.promise(20, "0 for its kind, 1 for its rate, 2 for whether it is broken (1, otherwise 0)");
        MachineRing ring = Rings.busy();
        CHECKS.dueRow("machine 0", what -> ring.machine(0, what), 0, 20, 1, 10, 10, 0,
                Float.floatToIntBits(115.0f), 0, Rings.BAD_VALUE);
        CHECKS.dueRow("machine 3", what -> ring.machine(3, what), 0, 10, 0, 0, 0, 1,
                Float.floatToIntBits(100.0f), 0, Rings.BAD_VALUE);
        int[] wrong = {LEAST, -1, 8, 9, MOST};
        refusedFor("machine(0, )", Rings.BAD_VALUE, wrong, (r, number) -> r.machine(0, number));

        CHECKS.promise(20, "3 for all hours since it was mended, 4 for all hours so far, 5 for its place in the shed (0 or 1)");
        ring.mend(0);
        CHECKS.dueRow("machine 0", what -> ring.machine(0, what), 0, 20, 0, 0, 10, 0,
                Float.floatToIntBits(115.0f), 1, Rings.BAD_VALUE);
        ring.pass(2);
        CHECKS.due("hours since", ring.machine(0, 3), 5);
        CHECKS.due("hours so far", ring.machine(0, 4), 15);

        CHECKS.promise(20, "7 for how often it was mended");
        MachineRing mended = new MachineRing();
        mended.buy(0, 0, 1);
        mended.set(0, 10);
        for (int n = 0; n < 5; n++) {
            CHECKS.due("how often", mended.machine(0, 7), n);
            mended.fill(0, 0, 102);
            mended.book(0, 0, 1, 12);
            mended.pass(1);
            mended.mend(0);
        }
        CHECKS.due("hours so far", mended.machine(0, 4), 60);

        CHECKS.promise(20, "Returns the number; UNKNOWN; BAD_VALUE");
        CHECKS.refused("UNKNOWN ahead of BAD_VALUE", Rings.UNKNOWN, r -> r.machine(4, 8));
        CHECKS.refused("UNKNOWN ahead of BAD_VALUE", Rings.UNKNOWN, r -> r.machine(-1, -1));
    }

    private static void fuel() {
        CHECKS.promise(20, "6 for the bits of its fuel (Float.floatToIntBits)");
        for (int power = 1; power <= 256; power *= 2) {
            bitsOfFuel(power % 3, power - 1);
            bitsOfFuel(power % 3, power);
            bitsOfFuel(power % 3, power + 1);
        }
        bitsOfFuel(1, 500);
        leastFuel();

        CHECKS.promise(21, "machine: a machine");
        CHECKS.dueFloat("fuel(0)", Rings.busy().fuel(0), 115.0f);
        CHECKS.dueFloat("fuel(3)", Rings.busy().fuel(3), 100.0f);
        CHECKS.dueFloat("fuel(5) of six", Rings.full().fuel(5), 600.0f);

        CHECKS.promise(21, "Returns its fuel; -1.0f if there is no such machine");
        CHECKS.dueFloat("no fuel", Rings.busy().fuel(1), 0.0f);
        for (int number : NO_MACHINES) {
            CHECKS.dueFloat("fuel(" + number + ")", Rings.busy().fuel(number), -1.0f);
        }
        CHECKS.dueFloat("fuel(6) of six", Rings.full().fuel(6), -1.0f);
        CHECKS.dueFloat("of an empty ring", new MachineRing().fuel(0), -1.0f);
    }

    private static void bitsOfFuel(int kind, int litres) {
        MachineRing ring = new MachineRing();
        ring.buy(kind, kind, 1);
        ring.fill(0, 0, litres);
        CHECKS.due("bits of " + litres, ring.machine(0, 6), Float.floatToIntBits((float) litres));
        CHECKS.dueFloat("fuel(0)", ring.fuel(0), (float) litres);
    }

    /** A quarter of a litre is the least that work leaves, but for nothing. */
    private static void leastFuel() {
        MachineRing ring = new MachineRing();
        ring.buy(2, 2, 1);
        ring.fill(0, 0, 21);
        ring.book(0, 0, 1, 1);
        ring.pass(1);
        CHECKS.dueFloat("a quarter", ring.fuel(0), 0.25f);
        CHECKS.due("bits of a quarter", ring.machine(0, 6), Float.floatToIntBits(0.25f));
        ring.fill(0, 0, 1);
        CHECKS.due("bits of 1.25", ring.machine(0, 6), Float.floatToIntBits(1.25f));
        ring.undo();
        ring.fill(0, 0, 500);
        CHECKS.due("bits of 500.25", ring.machine(0, 6), Float.floatToIntBits(500.25f));
        ring.fill(0, 0, 99);
        CHECKS.due("bits of 599.25", ring.machine(0, 6), Float.floatToIntBits(599.25f));
        MachineRing baler = new MachineRing();
        baler.buy(1, 1, 1);
        baler.fill(0, 0, 6);
        baler.book(0, 0, 1, 1);
        baler.pass(1);
        CHECKS.due("bits of three quarters", baler.machine(0, 6), Float.floatToIntBits(0.75f));
        MachineRing empty = new MachineRing();
        empty.buy(0, 0, 1);
        empty.fill(0, 0, 17);
        empty.book(0, 0, 1, 2);
        empty.pass(1);
        CHECKS.dueFloat("all is used", empty.fuel(0), 0.0f);
        CHECKS.due("bits of nothing", empty.machine(0, 6), 0);
        CHECKS.due("bits of 600", Rings.full().machine(5, 6), Float.floatToIntBits(600.0f));
    }

    // ---- promise 22

    private static void hours() {
        CHECKS.promise(22, "machine: a machine");
        refusedFor("hours(, 0)", Rings.UNKNOWN, NO_MACHINES, (r, number) -> r.hours(number, 0));
        CHECKS.due("machine 3", Rings.busy().hours(3, 0), 0);
        CHECKS.due("machine 5 of six", Rings.full().hours(5, 0), 0);
        CHECKS.due("machine 6 of six", Rings.full().hours(6, 0), Rings.UNKNOWN);

        CHECKS.promise(22, "farmer: 0 to 5");
        MachineRing ring = Rings.fuelled();
        Rings.bookText(ring, "0m0+1h5,5m0+1h7,5m2+1h12");
        ring.pass(1);
        CHECKS.dueRow("on machine 0", farmer -> ring.hours(0, farmer), 5, 0, 0, 0, 0, 7, Rings.UNKNOWN);
        CHECKS.dueRow("on machine 1", farmer -> ring.hours(1, farmer), 0, 0, 0, 0, 0, 0, Rings.UNKNOWN);
        CHECKS.dueRow("on machine 2", farmer -> ring.hours(2, farmer), 0, 0, 0, 0, 0, 12, Rings.UNKNOWN);
        refusedFor("hours(0, )", Rings.UNKNOWN, NO_FARMERS, (r, number) -> r.hours(0, number));

        CHECKS.promise(22, "Returns the hours of the farmer since it was mended; UNKNOWN (machine or farmer)");
        CHECKS.refused("both", Rings.UNKNOWN, r -> r.hours(4, 6));
        unknownToAnEmptyRing("hours(0, 0)", r -> r.hours(0, 0));
        MachineRing mended = Rings.busy();
        CHECKS.due("ahead of mending", mended.hours(0, 0), 10);
        mended.mend(0);
        CHECKS.due("behind it", mended.hours(0, 0), 0);
        CHECKS.due("of another machine", mended.hours(2, 1), 4);
    }

    // ---- promise 23

    private static void booking() {
        CHECKS.promise(23, "booking: a booking that stands");
        int[] wrong = {LEAST, -1, 0, 1, 5, 6, MOST};
        refusedFor("booking(, 0)", Rings.UNKNOWN, wrong, (r, number) -> r.booking(number, 0));
        CHECKS.due("the first that stands", Rings.busy().booking(2, 0), 3);
        CHECKS.due("the last that stands", Rings.busy().booking(4, 0), 4);
        CHECKS.due("one of 30", Rings.full().booking(30, 0), 5);
        CHECKS.due("behind 30", Rings.full().booking(31, 0), Rings.UNKNOWN);
        unknownToAnEmptyRing("booking(0, 0)", r -> r.booking(0, 0));

        CHECKS.promise(23, "4 for how often it was put off, 5 for the charge if it was done on its day");
        MachineRing ring = Rings.busy();
        CHECKS.dueRow("booking 3", what -> ring.booking(3, what), 1, 2, 4, 12, 0, 672, Rings.BAD_VALUE);
        int[] wrongWhat = {LEAST, -1, 6, 7, MOST};
        refusedFor("booking(2, )", Rings.BAD_VALUE, wrongWhat, (r, number) -> r.booking(2, number));
        ring.pass(4);
        CHECKS.due("put off twice", ring.booking(3, 4), 2);
        ring.setRate(2, 1);
        CHECKS.due("by the rate of now", ring.booking(3, 5), 12 + 72);
        ring.license(1, 5);
        CHECKS.due("by the licence of now", ring.booking(3, 5), 12);
        MachineRing seasons = Rings.fuelled();
        seasons.book(0, 0, 89, 1);
        seasons.book(0, 0, 90, 1);
        CHECKS.due("the last day of the season 0", seasons.booking(0, 5), 20);
        CHECKS.due("the first day of the season 1", seasons.booking(1, 5), 30);

        CHECKS.promise(23, "Returns the number; UNKNOWN; BAD_VALUE");
        CHECKS.refused("UNKNOWN ahead of BAD_VALUE", Rings.UNKNOWN, r -> r.booking(5, 6));
        CHECKS.refused("UNKNOWN ahead of BAD_VALUE", Rings.UNKNOWN, r -> r.booking(-1, -1));
    }

    // ---- promise 24

    private static void booked() {
        CHECKS.promise(24, "machine: a machine");
        refusedFor("booked(, 1)", Rings.UNKNOWN, NO_MACHINES, (r, number) -> r.booked(number, 1));
        CHECKS.due("machine 3", Rings.busy().booked(3, 2), 3);
        CHECKS.due("machine 5 of six", Rings.full().booked(5, 5), 12);
        CHECKS.due("machine 6 of six", Rings.full().booked(6, 5), Rings.UNKNOWN);
        unknownToAnEmptyRing("booked(0, 1)", r -> r.booked(0, 1));

        CHECKS.promise(24, "in: in how many days, 1 to 99");
        int[] wrong = {LEAST, -1, 0, 100, MOST};
        refusedFor("booked(0, )", Rings.BAD_VALUE, wrong, (r, number) -> r.booked(0, number));

        CHECKS.promise(24, "Returns how many; UNKNOWN; BAD_VALUE");
        CHECKS.refused("UNKNOWN ahead of BAD_VALUE", Rings.UNKNOWN, r -> r.booked(4, 0));
        CHECKS.refused("UNKNOWN ahead of BAD_VALUE", Rings.UNKNOWN, r -> r.booked(-1, 100));
    }

    private static void bookedOnEdges() {
        CHECKS.promise(24, "Tells the hours of a machine that are booked for a day");
        MachineRing ring = Rings.fuelled();
        CHECKS.due("none", ring.booked(0, 1), 0);
        ring.book(0, 0, 1, 1);
        ring.book(1, 0, 99, 12);
        CHECKS.due("an hour", ring.booked(0, 1), 1);
        CHECKS.due("the day behind it", ring.booked(0, 2), 0);
        CHECKS.due("the day ahead of the last", ring.booked(0, 98), 0);
        CHECKS.due("on the last day", ring.booked(0, 99), 12);
        CHECKS.due("of another machine", ring.booked(1, 1), 0);
        ring.book(2, 0, 1, 11);
        CHECKS.due("the hours of two", ring.booked(0, 1), 12);
        CHECKS.due("a day passes", ring.pass(1), 2);
        CHECKS.due("what was done is not booked", ring.booked(0, 1), 0);
        CHECKS.due("in a day less", ring.booked(0, 98), 12);
        CHECKS.due("not in as many", ring.booked(0, 99), 0);
    }

    // ---- promise 25

    private static void wet() {
        CHECKS.promise(25, "in: in how many days, 0 to 99 (0 for today)");
        int[] wrong = {LEAST, -1, 100, MOST};
        refusedFor("wet()", Rings.BAD_VALUE, wrong, (r, number) -> r.wet(number));
        MachineRing ring = new MachineRing();
        CHECKS.due("today", ring.wet(0), 0);
        CHECKS.due("in 97 days", ring.wet(97), 1);
        CHECKS.due("in 98 days", ring.wet(98), 0);
        CHECKS.due("in 99 days", ring.wet(99), 1);
        ring.pass(2);
        CHECKS.due("today, which is wet", ring.wet(0), 1);
        CHECKS.due("two days ago, it was in 99", ring.wet(97), 1);

        CHECKS.promise(25, "Returns 1 if that day is wet, otherwise 0; BAD_VALUE");
        MachineRing year = new MachineRing();
        int wet = 0;
        for (int in = 0; in < 100; in++) {
            wet += year.wet(in);
        }
        CHECKS.due("wet days of the first hundred", wet, 27);
    }

    // ---- promise 26

    private static void most() {
        CHECKS.promise(26, "machine: a machine");
        refusedFor("most()", Rings.UNKNOWN, NO_MACHINES, (r, number) -> r.most(number));
        CHECKS.due("machine 6 of six", Rings.full().most(6), Rings.UNKNOWN);
        unknownToAnEmptyRing("most(0)", r -> r.most(0));

        CHECKS.promise(26, "Returns the farmer; UNKNOWN; NONE if there are no hours");
        CHECKS.refused("no hours", Rings.NONE, r -> r.most(1));
        CHECKS.refused(Rings::full, "no hours of machine 5", Rings.NONE, r -> r.most(5));
        MachineRing ring = Rings.busy();
        CHECKS.due("hours", ring.most(0), 0);
        ring.mend(0);
        CHECKS.due("no hours since it was mended", ring.most(0), Rings.NONE);
        MachineRing one = Rings.fuelled();
        one.book(5, 0, 1, 1);
        CHECKS.due("booked hours are none", one.most(0), Rings.NONE);
        one.pass(1);
        CHECKS.due("an hour", one.most(0), 5);
    }

    private static void mostOfSeveral() {
        CHECKS.promise(26, "Tells the farmer with the most hours on a machine since it was mended, of several the lowest");
        CHECKS.due("6 and 6", mostBy("0m0+1h6,5m0+1h6"), 0);
        CHECKS.due("6 and 6, the other first", mostBy("5m0+1h6,0m0+1h6"), 0);
        CHECKS.due("5 and 6", mostBy("0m0+1h5,5m0+1h6"), 5);
        CHECKS.due("6 and 5", mostBy("0m0+1h6,5m0+1h5"), 0);
        CHECKS.due("2 each", mostBy("5m0+1h2,4m0+1h2,3m0+1h2,2m0+1h2,1m0+1h2,0m0+1h2"), 0);
        CHECKS.due("2 each, but 1 of farmer 0", mostBy("5m0+1h2,4m0+1h2,3m0+1h2,2m0+1h2,1m0+1h2,0m0+1h1"), 1);
        CHECKS.due("3 and 3 of two bookings", mostBy("4m0+1h3,2m0+1h1,2m0+1h2"), 2);
        CHECKS.due("on another machine", mostBy("3m0+1h1,2m2+1h12"), 3);
    }

    private static int mostBy(String text) {
        MachineRing ring = Rings.fuelled();
        Rings.bookText(ring, text);
        ring.pass(1);
        return ring.most(0);
    }

    // ---- promise 27

    private static void lasts() {
        CHECKS.promise(27, "machine: a machine");
        refusedFor("lasts()", Rings.UNKNOWN, NO_MACHINES, (r, number) -> r.lasts(number));
        CHECKS.due("machine 6 of six", Rings.full().lasts(6), Rings.UNKNOWN);
        unknownToAnEmptyRing("lasts(0)", r -> r.lasts(0));

        CHECKS.promise(27, "Returns in how many days; UNKNOWN; NONE if it is enough for all");
        CHECKS.refused("without fuel and bookings", Rings.NONE, r -> r.lasts(1));
        CHECKS.refused("with fuel, without bookings", Rings.NONE, r -> r.lasts(3));
        CHECKS.due("the first day", lastsWith(0, "0m0+1h1"), 1);
        CHECKS.due("the last day", lastsWith(0, "0m0+99h1"), 99);
        CHECKS.due("the first of two", lastsWith(0, "0m0+99h1,0m0+98h1"), 98);
        MachineRing days = Rings.busy();
        CHECKS.due("in days from now", days.lasts(2), 3);
        days.pass(1);
        CHECKS.due("a day later", days.lasts(2), 2);
        days.pass(1);
        CHECKS.due("tomorrow", days.lasts(2), 1);
        days.pass(1);
        CHECKS.due("put off to tomorrow", days.lasts(2), 1);
    }

    /** Of machine 0, a tractor that uses 8.5 litres an hour. */
    private static int lastsWith(int litres, String text) {
        MachineRing ring = new MachineRing();
        ring.buy(0, 0, 1);
        ring.buy(0, 0, 1);
        ring.fill(0, 0, litres);
        CHECKS.holds("booked: " + text, Rings.bookText(ring, text) > 0);
        return ring.lasts(0);
    }

    private static void lastsExactly() {
        CHECKS.promise(27, "Tells how many days a machine's fuel lasts for its bookings, if nothing is filled: the first day");
        CHECKS.promise(27, "for which it would not be enough");
        CHECKS.due("17 for 2 hours", lastsWith(17, "0m0+1h2"), Rings.NONE);
        CHECKS.due("16 for 2 hours", lastsWith(16, "0m0+1h2"), 1);
        CHECKS.due("17 for 1 and 1 hours", lastsWith(17, "0m0+1h1,0m0+2h1"), Rings.NONE);
        CHECKS.due("16 for 1 and 1 hours", lastsWith(16, "0m0+1h1,0m0+2h1"), 2);
        CHECKS.due("17 for 1 and 1 hours of a day", lastsWith(17, "0m0+7h1,0m0+7h1"), Rings.NONE);
        CHECKS.due("16 for 1 and 1 hours of a day", lastsWith(16, "0m0+7h1,0m0+7h1"), 7);
        CHECKS.due("408 for 48 hours", lastsWith(408, "0m0+1h12,0m0+2h12,0m0+3h12,0m0+4h12"), Rings.NONE);
        CHECKS.due("407 for 48 hours", lastsWith(407, "0m0+1h12,0m0+2h12,0m0+3h12,0m0+4h12"), 4);
        MachineRing combine = new MachineRing();
        combine.buy(2, 2, 1);
        combine.fill(0, 0, 83);
        combine.book(0, 0, 1, 3);
        combine.pass(1);
        combine.book(0, 0, 2, 1);
        CHECKS.due("20.75 for an hour", combine.lasts(0), Rings.NONE);
        combine.book(0, 0, 3, 1);
        CHECKS.due("nothing for an hour more", combine.lasts(0), 3);
    }

    private static void lastsInOrder() {
        CHECKS.promise(27, "all of them being done on their days, in the order of days, then numbers");
        CHECKS.due("by days, not by numbers", lastsWith(26, "0m0+9h3,0m0+2h3"), 9);
        CHECKS.due("by days, not by numbers", lastsWith(26, "0m0+2h3,0m0+9h3"), 9);
        CHECKS.due("a later one that is enough is not it", lastsWith(17, "0m0+1h1,0m0+2h2,0m0+3h1"), 2);
        CHECKS.due("of other machines none", lastsWith(17, "0m1+1h12,0m0+2h2"), Rings.NONE);
        MachineRing wet = new MachineRing();
        wet.buy(1, 1, 1);
        wet.fill(0, 0, 21);
        wet.book(0, 0, 2, 4);
        wet.book(0, 0, 3, 1);
        CHECKS.due("as if on the wet day too", wet.lasts(0), 3);
        MachineRing broken = Rings.busy();
        CHECKS.due("broken, enough", broken.lasts(0), Rings.NONE);
        broken.book(0, 0, 9, 12);
        CHECKS.due("broken, as if it was not", broken.lasts(0), 9);
    }

    // ---- promise 28

    private static void count() {
        CHECKS.promise(28, "what: 0 for the day of now, 1 for the season, 2 for the machines, 3 for bookings that stand");
        MachineRing full = Rings.full();
        CHECKS.dueRow("count", full::count, 1, 0, 6, 30, 31, 1, 0, -7404, -12, 10, 300, 0, 1, 4, 60, 0, 7404, 0,
                Rings.BAD_VALUE);
        CHECKS.dueRow("count of an empty ring", new MachineRing()::count, 0, 0, 0, 0, 0, 0, 0, 0, 0, 40, 300, 0, 0, 0,
                0, 0, 0, 0, Rings.BAD_VALUE);
        MachineRing ring = Rings.busy();
        ring.mend(0);
        ring.pay(3, 9999);
        CHECKS.dueRow("count", ring::count, 1, 0, 4, 3, 5, 2, 0, -1200 - 300 + 9999, -500 - 224 + 9999,
                10, 300, 5, 0, 4, 7, 300, 1200, 9999, Rings.BAD_VALUE);

        CHECKS.promise(28, "17 for coins paid by farmers so far");
        int[] wrong = {LEAST, -1, 18, 19, MOST};
        refusedFor("count()", Rings.BAD_VALUE, wrong, (r, number) -> r.count(number));

        CHECKS.promise(28, "6 for how often any was put off so far");
        full.pass(1);
        CHECKS.due("five of six", full.count(6), 5);
        full.takeBack(1);
        CHECKS.due("it stays when one is taken back", full.count(6), 5);
        full.undo();
        full.undo();
        CHECKS.due("but not behind undo()", full.count(6), 0);

        CHECKS.promise(28, "15 for what mending cost so far, 16 for what fuel cost so far");
        MachineRing costs = Rings.busy();
        for (int n = 1; n <= 3; n++) {
            CHECKS.holds("mend(0)", costs.mend(0) >= 0);
            CHECKS.due("300 more", costs.count(15), 300 * n);
            CHECKS.due("102 litres more", costs.count(16), 1200 + 204 * (n - 1));
            costs.fill(5, 0, 102);
            costs.book(5, 0, 4, 12);
            costs.pass(4);
            CHECKS.due("broken again", costs.machine(0, 2), 1);
        }

        CHECKS.promise(28, "Returns the number; BAD_VALUE");
        CHECKS.due("count(17)", full.count(17), 0);
        CHECKS.due("count(18)", full.count(18), Rings.BAD_VALUE);
    }

    private static void tellingChangesNothing() {
        CHECKS.begin("promises 19 to 28: what is told changes nothing");
        CHECKS.refused("farmer(0, 0)", -200, r -> r.farmer(0, 0));
        CHECKS.refused("machine(0, 6)", Float.floatToIntBits(115.0f), r -> r.machine(0, 6));
        CHECKS.refused("fuel(0)", 115, r -> (int) r.fuel(0));
        CHECKS.refused("fuel(4)", -1, r -> (int) r.fuel(4));
        CHECKS.refused("hours(0, 0)", 10, r -> r.hours(0, 0));
        CHECKS.refused("booking(3, 5)", 672, r -> r.booking(3, 5));
        CHECKS.refused("booked(2, 3)", 12, r -> r.booked(2, 3));
        CHECKS.refused("wet(1)", 1, r -> r.wet(1));
        CHECKS.refused("most(0)", 0, r -> r.most(0));
        CHECKS.refused("lasts(2)", 3, r -> r.lasts(2));
        CHECKS.refused("count(8)", -424, r -> r.count(8));
    }
}
