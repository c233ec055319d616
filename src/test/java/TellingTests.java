/** Promises 19 to 28: what is told. */
public final class TellingTests {
    private static final Checks CHECKS = new Checks();

    public static void main(String[] args) {
        farmer();
        machine();
        bitsOfFuel();
        fuel();
        hours();
        booking();
        booked();
        wet();
        most();
        lasts();
        lastsInTheOrderOfDays();
        count();
        tellsChangeNothing();
        CHECKS.end();
    }

    /** Of Rings.busy(), with machine 0 mended at 300. */
    private static MachineRing mended() {
        MachineRing ring = Rings.busy();
        ring.mend(0);
        return ring;
    }

    private static void farmer() {
        CHECKS.begin("promise 19, farmer");
        MachineRing ring = mended();
        ring.license(1, 6);
        CHECKS.dueRow("farmer 0", what -> ring.farmer(0, what), -500, 1, 10, 100, 0, 200, 300, Rings.BAD_VALUE);
        CHECKS.dueRow("farmer 1", what -> ring.farmer(1, what), -224, 6, 4, 200, 1, 224, 0, Rings.BAD_VALUE);
        CHECKS.dueRow("farmer 5", what -> ring.farmer(5, what), 0, 1, 0, 0, 0, 0, 0, Rings.BAD_VALUE);
        CHECKS.dueRow("bookings that stand", farmer -> ring.farmer(farmer, 4), 0, 1, 0, 1, 1, 0);
        ring.book(1, 3, 9, 1);
        CHECKS.due("farmer(1, 4)", ring.farmer(1, 4), 2);
        CHECKS.refused("farmer(0, -1)", Rings.BAD_VALUE, r -> r.farmer(0, -1));
        CHECKS.refused("farmer(-1, 0)", Rings.UNKNOWN, r -> r.farmer(-1, 0));
        CHECKS.refused("farmer(6, 7)", Rings.UNKNOWN, r -> r.farmer(6, 7));
    }

    private static void machine() {
        CHECKS.begin("promise 20, machine");
        MachineRing ring = Rings.busy();
        CHECKS.dueRow("machine 0", what -> ring.machine(0, what),
                0, 20, 1, 10, 10, 0, Float.floatToIntBits(115.0f), 0, Rings.BAD_VALUE);
        CHECKS.dueRow("machine 1", what -> ring.machine(1, what), 1, 33, 0, 0, 0, 0, 0, 0, Rings.BAD_VALUE);
        CHECKS.dueRow("machine 2", what -> ring.machine(2, what),
                2, 50, 0, 4, 4, 0, Float.floatToIntBits(217.0f), 0, Rings.BAD_VALUE);
        CHECKS.dueRow("machine 3", what -> ring.machine(3, what),
                0, 10, 0, 0, 0, 1, Float.floatToIntBits(100.0f), 0, Rings.BAD_VALUE);
        ring.mend(0);
        CHECKS.dueRow("machine 0, mended", what -> ring.machine(0, what),
                0, 20, 0, 0, 10, 0, Float.floatToIntBits(115.0f), 1, Rings.BAD_VALUE);
        CHECKS.refused("machine(0, -1)", Rings.BAD_VALUE, r -> r.machine(0, -1));
        CHECKS.refused("machine(-1, 0)", Rings.UNKNOWN, r -> r.machine(-1, 0));
        CHECKS.refused("machine(4, 8)", Rings.UNKNOWN, r -> r.machine(4, 8));
    }

    /** All fuels by quarters that the three kinds come to from a full tank, hour by hour. */
    private static void bitsOfFuel() {
        CHECKS.begin("promise 20, the bits of the fuel");
        int[] quarters = {34, 21, 83};
        for (int kind = 0; kind < 3; kind++) {
            for (int litres = 1; litres <= 100; litres++) {
                MachineRing ring = new MachineRing();
                ring.buy(kind, kind, 1);
                ring.fill(0, 0, litres);
                ring.book(0, 0, 1, 1);
                ring.pass(1);
                int left = litres * 4 >= quarters[kind] ? litres * 4 - quarters[kind] : litres * 4;
                CHECKS.due("bits of " + left + " quarters", ring.machine(0, 6), Float.floatToIntBits(left / 4.0f));
                ring.fill(0, 0, 500 - litres);
                CHECKS.due("bits of more", ring.machine(0, 6),
                        Float.floatToIntBits((left + 4 * (500 - litres)) / 4.0f));
            }
        }
        MachineRing full = new MachineRing();
        full.buy(0, 0, 1);
        full.fill(0, 0, 500);
        full.fill(0, 0, 100);
        CHECKS.due("bits of 600", full.machine(0, 6), Float.floatToIntBits(600.0f));
    }

    private static void fuel() {
        CHECKS.begin("promise 21, fuel");
        MachineRing ring = Rings.busy();
        CHECKS.dueFloat("fuel(0)", ring.fuel(0), 115.0f);
        CHECKS.dueFloat("fuel(1)", ring.fuel(1), 0.0f);
        CHECKS.dueFloat("fuel(2)", ring.fuel(2), 217.0f);
        CHECKS.dueFloat("fuel(3)", ring.fuel(3), 100.0f);
        CHECKS.dueFloat("fuel(4)", ring.fuel(4), -1.0f);
        CHECKS.dueFloat("fuel(-1)", ring.fuel(-1), -1.0f);
        ring.fill(0, 1, 20);
        ring.book(0, 1, 2, 1);
        ring.pass(2);
        CHECKS.dueFloat("fuel(1)", ring.fuel(1), 14.75f);
        CHECKS.dueFloat("fuel(3)", ring.fuel(3), 74.5f);
    }

    private static void hours() {
        CHECKS.begin("promise 22, hours");
        MachineRing ring = Rings.busy();
        CHECKS.dueRow("hours on 0", farmer -> ring.hours(0, farmer), 10, 0, 0, 0, 0, 0, Rings.UNKNOWN);
        CHECKS.dueRow("hours on 2", farmer -> ring.hours(2, farmer), 0, 4, 0, 0, 0, 0, Rings.UNKNOWN);
        ring.mend(0);
        CHECKS.dueRow("hours on 0, mended", farmer -> ring.hours(0, farmer), 0, 0, 0, 0, 0, 0);
        CHECKS.refused("hours(0, -1)", Rings.UNKNOWN, r -> r.hours(0, -1));
        CHECKS.refused("hours(-1, 0)", Rings.UNKNOWN, r -> r.hours(-1, 0));
        CHECKS.refused("hours(4, 0)", Rings.UNKNOWN, r -> r.hours(4, 0));
    }

    private static void booking() {
        CHECKS.begin("promise 23, booking");
        MachineRing ring = Rings.busy();
        CHECKS.dueRow("booking 2", what -> ring.booking(2, what), 3, 3, 3, 3, 0, 30, Rings.BAD_VALUE);
        CHECKS.dueRow("booking 3", what -> ring.booking(3, what), 1, 2, 4, 12, 0, 672, Rings.BAD_VALUE);
        CHECKS.dueRow("booking 4", what -> ring.booking(4, what), 4, 0, 3, 5, 0, 100, Rings.BAD_VALUE);
        ring.pass(3);
        CHECKS.dueRow("booking 2, done", what -> ring.booking(2, what), Rings.UNKNOWN, Rings.UNKNOWN);
        CHECKS.dueRow("booking 3, put off", what -> ring.booking(3, what), 1, 2, 5, 12, 1, 672, Rings.BAD_VALUE);
        CHECKS.dueRow("booking 4, put off", what -> ring.booking(4, what), 4, 0, 5, 5, 2, 100, Rings.BAD_VALUE);
        CHECKS.refused("booking(2, -1)", Rings.BAD_VALUE, r -> r.booking(2, -1));
        CHECKS.refused("booking(-1, 6)", Rings.UNKNOWN, r -> r.booking(-1, 6));
        CHECKS.refused("booking(1, 0)", Rings.UNKNOWN, r -> r.booking(1, 0));
        CHECKS.refused("booking(5, 0)", Rings.UNKNOWN, r -> r.booking(5, 0));
    }

    private static void booked() {
        CHECKS.begin("promise 24, booked");
        MachineRing ring = Rings.busy();
        ring.book(5, 3, 2, 4);
        ring.book(5, 3, 99, 12);
        CHECKS.dueRow("booked of 3", in -> ring.booked(3, in), Rings.BAD_VALUE, 0, 7, 0);
        CHECKS.due("booked(3, 99)", ring.booked(3, 99), 12);
        CHECKS.dueRow("booked of 2", in -> ring.booked(2, in), Rings.BAD_VALUE, 0, 0, 12, 0);
        CHECKS.dueRow("booked of 0", in -> ring.booked(0, in), Rings.BAD_VALUE, 0, 5, 0);
        ring.pass(1);
        CHECKS.dueRow("booked of 3", in -> ring.booked(3, in), Rings.BAD_VALUE, 7, 0);
        CHECKS.refused("booked(0, 100)", Rings.BAD_VALUE, r -> r.booked(0, 100));
        CHECKS.refused("booked(4, 0)", Rings.UNKNOWN, r -> r.booked(4, 0));
        CHECKS.refused("booked(-1, 1)", Rings.UNKNOWN, r -> r.booked(-1, 1));
    }

    private static void wet() {
        CHECKS.begin("promise 25, wet");
        MachineRing ring = new MachineRing();
        CHECKS.dueRow("wet", ring::wet, 0, 0, 1, 0, 0, 0, 0, 1, 0, 1, 0, 0, 0, 0, 1, 0, 1);
        CHECKS.due("wet(97)", ring.wet(97), 1);
        CHECKS.due("wet(98)", ring.wet(98), 0);
        CHECKS.due("wet(99)", ring.wet(99), 1);
        CHECKS.due("wet(100)", ring.wet(100), Rings.BAD_VALUE);
        CHECKS.due("wet(-1)", ring.wet(-1), Rings.BAD_VALUE);
        ring.pass(60);
        CHECKS.dueRow("wet from day 60 on", ring::wet, 1, 0, 0, 0, 0, 1, 0, 1);
        ring.setSeed(9999);
        CHECKS.dueRow("wet with the seed 9999", ring::wet, 0, 1, 0, 0, 0, 0, 1, 0, 1);
        edgesOfTheFormula();
        CHECKS.refused("wet(100)", Rings.BAD_VALUE, r -> r.wet(100));
    }

    /** Seeds by which the remainder by 10000 is 7935, 7936 (a multiple of 64), 7951 and 7952 on day 0. */
    private static void edgesOfTheFormula() {
        wetToday(6832, 0);
        wetToday(4813, 1);
        wetToday(4528, 1);
        wetToday(2509, 0);
    }

    private static void wetToday(int seed, int want) {
        MachineRing ring = new MachineRing();
        ring.setSeed(seed);
        CHECKS.due("wet(0) with the seed " + seed, ring.wet(0), want);
    }

    private static void most() {
        CHECKS.begin("promise 26, most");
        MachineRing ring = Rings.busy();
        CHECKS.dueRow("most", ring::most, 0, Rings.NONE, 1, Rings.NONE, Rings.UNKNOWN);
        CHECKS.due("most(-1)", ring.most(-1), Rings.UNKNOWN);
        ring.mend(0);
        CHECKS.due("most(0), mended", ring.most(0), Rings.NONE);
        MachineRing one = Rings.fuelled();
        one.book(4, 0, 1, 1);
        one.pass(1);
        CHECKS.due("an hour is enough", one.most(0), 4);
        MachineRing even = Rings.fuelled();
        Rings.bookText(even, "5m0+1h4,4m0+1h3,3m0+1h3");
        even.pass(1);
        CHECKS.due("4, 3 and 3 hours", even.most(0), 5);
        Rings.bookText(even, "4m0+1h1,3m0+2h1,3m0+3h1");
        even.pass(1);
        CHECKS.due("as many hours: the lowest", even.most(0), 4);
        even.pass(1);
        CHECKS.due("as many hours: the lowest", even.most(0), 3);
        even.pass(1);
        CHECKS.due("most hours", even.most(0), 3);
    }

    private static void lasts() {
        CHECKS.begin("promise 27, lasts");
        MachineRing ring = Rings.busy();
        CHECKS.due("lasts(-1)", ring.lasts(-1), Rings.UNKNOWN);
        CHECKS.dueRow("lasts", ring::lasts, Rings.NONE, Rings.NONE, 3, Rings.NONE, Rings.UNKNOWN);
        ring.fill(0, 2, 32);
        CHECKS.due("exactly enough", ring.lasts(2), Rings.NONE);
        ring.book(0, 2, 99, 1);
        CHECKS.due("the last day of all", ring.lasts(2), 99);
        ring.book(0, 1, 2, 1);
        CHECKS.due("without fuel", ring.lasts(1), 2);
        ring.pass(1);
        CHECKS.due("in days from now", ring.lasts(1), 1);
        ring.pass(1);
        CHECKS.due("put off", ring.lasts(1), 1);
    }

    private static void lastsInTheOrderOfDays() {
        CHECKS.begin("promise 27, the order of days");
        MachineRing ring = new MachineRing();
        ring.buy(0, 0, 20);
        ring.buy(0, 0, 20);
        ring.fill(0, 0, 26);
        Rings.bookText(ring, "0m0+5h3,0m0+2h3,0m1+1h12");
        CHECKS.due("25.5 for day 2, none for day 5", ring.lasts(0), 5);
        ring.fill(0, 0, 24);
        CHECKS.due("50 are too few", ring.lasts(0), 5);
        ring.fill(0, 0, 1);
        CHECKS.due("51 are enough", ring.lasts(0), Rings.NONE);
        Rings.bookText(ring, "0m0+2h1,0m0+3h1");
        CHECKS.due("now for days 2 and 3, not for 5", ring.lasts(0), 5);
        Rings.bookText(ring, "0m0+1h3");
        CHECKS.due("and not for 3", ring.lasts(0), 2);
        CHECKS.due("the other machine", ring.lasts(1), 1);
    }

    private static void count() {
        CHECKS.begin("promise 28, count");
        MachineRing ring = mended();
        ring.pay(3, 1000);
        CHECKS.dueRow("count", ring::count,
                1, 0, 4, 3, 5, 2, 0, -1200 - 300 + 1000, -500 - 224 + 1000,
                10, 300, 5, 0, 4, 7, 300, 1200, 1000, Rings.BAD_VALUE);
        CHECKS.due("count(-1)", ring.count(-1), Rings.BAD_VALUE);
        ring.pass(60);
        ring.pass(60);
        CHECKS.due("count(0)", ring.count(0), 121);
        CHECKS.due("count(1)", ring.count(1), 1);
        CHECKS.due("count(3)", ring.count(3), 1);
        CHECKS.due("count(5)", ring.count(5), 4);
        CHECKS.due("count(6)", ring.count(6), 118);
        CHECKS.due("count(12)", Rings.busy().count(12), 1);
    }

    private static void tellsChangeNothing() {
        CHECKS.begin("what is told changes nothing");
        CHECKS.refused("lasts(2)", 3, r -> r.lasts(2));
        CHECKS.refused("most(2)", 1, r -> r.most(2));
        CHECKS.refused("booked(2, 3)", 12, r -> r.booked(2, 3));
        CHECKS.refused("wet(1)", 1, r -> r.wet(1));
        CHECKS.refused("fuel(0)", 115, r -> (int) r.fuel(0));
    }
}
