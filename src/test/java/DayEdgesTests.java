/**
 * The edges of promises 11 to 13 and of the terms on days, seasons, weather and what becomes of bookings: a test a
 * sentence. Without a seed the days 2, 7, 9, 14 and 16 are wet, of those up to 20.
 */
public final class DayEdgesTests {
    private static final Checks CHECKS = new Checks();
    private static final int LEAST = Integer.MIN_VALUE;
    private static final int MOST = Integer.MAX_VALUE;

    public static void main(String[] args) {
        dayOfNow();
        dayOfTheYear();
        seasons();
        factors();
        theYearBeginsAnew();
        weather();
        weatherOfEachSeed();
        weatherOfLaterYears();
        whoWorksOnWetDays();
        goneThroughByNumbers();
        fuelIsEnough();
        putOffToTheNextDay();
        putOffBehindFullDays();
        putOffWhateverTheWeather();
        putOffOverTheYearsEnd();
        workIsDone();
        operators();
        chargesRoundDown();
        breaking();
        breakingRightBehindWork();
        brokenAllTheSame();
        pass();
        set();
        setSeed();
        fiveHundredAndTwelveCalls();
        CHECKS.end();
    }

    /** Machine 0, of a kind, at 10 coins an hour with 600 litres. */
    private static MachineRing ringOf(int kind) {
        MachineRing ring = new MachineRing();
        ring.buy(kind, kind, 10);
        ring.fill(5, 0, 500);
        ring.fill(5, 0, 100);
        return ring;
    }

    // ---- days, seasons

    private static void dayOfNow() {
        CHECKS.terms("The day of now is 0 at first");
        MachineRing ring = new MachineRing();
        CHECKS.due("at first", ring.count(0), 0);
        CHECKS.due("keep() tells it", ring.keep(), 0);
        ring.pass(1);
        CHECKS.due("behind a day", ring.count(0), 1);
        ring.pass(60);
        CHECKS.due("behind 61", ring.count(0), 61);
    }

    private static void dayOfTheYear() {
        CHECKS.terms("the day of the year is the day of now % 360");
        MachineRing ring = new MachineRing();
        Rings.passTo(ring, 359);
        CHECKS.due("season of day 359", ring.count(1), 3);
        ring.pass(1);
        CHECKS.due("the day of now goes on", ring.count(0), 360);
        CHECKS.due("season of day 360", ring.count(1), 0);
        Rings.passTo(ring, 719);
        CHECKS.due("season of day 719", ring.count(1), 3);
        ring.pass(1);
        CHECKS.due("the day of now goes on", ring.count(0), 720);
        CHECKS.due("season of day 720", ring.count(1), 0);
    }

    private static void seasons() {
        CHECKS.terms("The season is (the day of the year) / 90, rounded down");
        MachineRing ring = new MachineRing();
        for (int season = 0; season < 9; season++) {
            CHECKS.due("first day " + 90 * season, ring.count(1), season % 4);
            Rings.passTo(ring, 90 * season + 1);
            CHECKS.due("day " + (90 * season + 1), ring.count(1), season % 4);
            Rings.passTo(ring, 90 * season + 89);
            CHECKS.due("last day " + (90 * season + 89), ring.count(1), season % 4);
            ring.pass(1);
        }
    }

    /** An hour at 40 coins on the last and the first day of each season, for two years. */
    private static void factors() {
        CHECKS.terms("The factor of the seasons 0 to 3 is 1.0f, 1.5f, 1.25f, 0.5f");
        int[] charges = {40, 60, 50, 20};
        MachineRing ring = ringOf(0);
        ring.setRate(0, 40);
        int account = 0;
        for (int season = 0; season < 8; season++) {
            Rings.passTo(ring, 90 * season + 88);
            int last = ring.book(1, 0, 1, 1);
            int first = ring.book(1, 0, 2, 1);
            CHECKS.due("told for the last day", ring.booking(last, 5), charges[season % 4]);
            CHECKS.due("told for the first day", ring.booking(first, 5), charges[(season + 1) % 4]);
            ring.pass(1);
            account -= charges[season % 4];
            CHECKS.due("charged on the last day", ring.farmer(1, 0), account);
            ring.pass(1);
            account -= charges[(season + 1) % 4];
            CHECKS.due("charged on the first day", ring.farmer(1, 0), account);
        }
    }

    private static void theYearBeginsAnew() {
        CHECKS.terms("the day of the year is the day of now % 360");
        MachineRing ring = ringOf(0);
        Rings.passTo(ring, 359);
        int first = ring.book(1, 0, 1, 12);
        int last = ring.book(1, 0, 99, 12);
        CHECKS.due("its day", ring.booking(first, 2), 360);
        CHECKS.due("its charge by the season 0", ring.booking(first, 5), 120);
        CHECKS.due("the day of the last", ring.booking(last, 2), 458);
        CHECKS.due("its charge by the season 1", ring.booking(last, 5), 180);
        CHECKS.due("booked on the first day", ring.booked(0, 1), 12);
        CHECKS.due("an hour more", ring.book(2, 0, 1, 1), Rings.NOT_POSSIBLE);
        ring.pass(1);
        CHECKS.due("done", ring.count(5), 1);
        CHECKS.due("charged by the season 0", ring.farmer(1, 0), -120);
        CHECKS.due("undo()", ring.undo(), 3);
        CHECKS.due("in the old year again", ring.count(0), 359);
        CHECKS.due("in the season 3 again", ring.count(1), 3);
    }

    // ---- weather

    private static void wetToday(int seed, int want) {
        MachineRing ring = new MachineRing();
        ring.setSeed(seed);
        CHECKS.due("wet(0) with the seed " + seed, ring.wet(0), want);
    }

    /** The seeds are such that the remainder by 10000 is 0, 15, 16, 63, 64, 79, 80, 9983, 9984 and 9999. */
    private static void weather() {
        CHECKS.terms("((421 * (d + seed) + 1663) % 10000) / 16 % 4 is 0, otherwise dry");
        wetToday(7597, 1);
        wetToday(7312, 1);
        wetToday(5293, 0);
        wetToday(400, 0);
        wetToday(8381, 1);
        wetToday(8096, 1);
        wetToday(6077, 0);
        wetToday(1920, 0);
        wetToday(9901, 1);
        wetToday(9616, 1);
        MachineRing ring = new MachineRing();
        CHECKS.due("the first wet day", ring.wet(2), 1);
        CHECKS.due("a dry one ahead of it", ring.wet(1), 0);
        CHECKS.due("a dry one behind it", ring.wet(3), 0);
    }

    /** A remainder by 10000 is a wet day's if its remainder by 64 is below 16. */
    private static boolean isWet(long day, long seed) {
        long rest = (1663 + day * 421 + seed * 421) % 10000;
        return rest % 64 < 16;
    }

    private static void weatherOfEachSeed() {
        CHECKS.terms("the seed is 0 at first (0 to 9999)");
        CHECKS.due("at first", new MachineRing().count(11), 0);
        for (int first = 0; first < 10000; first += 100) {
            MachineRing ring = new MachineRing();
            for (int seed = first; seed < first + 100; seed++) {
                ring.setSeed(seed);
                CHECKS.due("wet(0) with " + seed, ring.wet(0), isWet(0, seed) ? 1 : 0);
                CHECKS.due("wet(1) with " + seed, ring.wet(1), isWet(1, seed) ? 1 : 0);
                CHECKS.due("wet(99) with " + seed, ring.wet(99), isWet(99, seed) ? 1 : 0);
            }
        }
    }

    /** Days 2 and 3 are wet and dry, days 362 and 363 are dry and wet. */
    private static void weatherOfLaterYears() {
        CHECKS.terms("The weather of a day d is wet if");
        MachineRing ring = new MachineRing();
        CHECKS.dueRow("wet", ring::wet, 0, 0, 1, 0);
        Rings.passTo(ring, 359);
        CHECKS.dueRow("not by the day of the year", ring::wet, 0, 0, 0, 0, 1);
        for (int day = 360; day < 800; day += 60) {
            Rings.passTo(ring, day);
            for (int in = 0; in < 6; in++) {
                CHECKS.due("wet(" + in + ") on " + day, ring.wet(in), isWet(day + in, 0) ? 1 : 0);
            }
        }
    }

    private static void whoWorksOnWetDays() {
        CHECKS.terms("Balers and combines do not work on wet days; tractors do");
        for (int kind = 0; kind < 3; kind++) {
            MachineRing ring = ringOf(kind);
            ring.book(0, 0, 1, 1);
            ring.book(1, 0, 2, 1);
            ring.book(2, 0, 3, 1);
            CHECKS.due("a dry day", ring.pass(1), 1);
            CHECKS.due("a wet day", ring.pass(1), kind == 0 ? 1 : 0);
            CHECKS.due("a dry day", ring.pass(1), kind == 0 ? 1 : 2);
            CHECKS.due("put off so far", ring.count(6), kind == 0 ? 0 : 1);
        }
        MachineRing seeded = ringOf(1);
        seeded.book(0, 0, 2, 1);
        seeded.setSeed(1);
        CHECKS.due("dry by another seed", seeded.pass(2), 1);
    }

    // ---- what becomes of bookings

    private static void goneThroughByNumbers() {
        CHECKS.terms("the day of now is 1 more; then the bookings for the day of now are gone through by numbers");
        MachineRing ring = new MachineRing();
        ring.buy(0, 0, 10);
        Rings.bookText(ring, "0m0+1h2,1m0+2h2,2m0+1h2,3m0+2h2");
        CHECKS.due("none for want of fuel", ring.pass(1), 0);
        CHECKS.dueRow("days", booking -> ring.booking(booking, 2), 2, 2, 2, 2);
        ring.fill(0, 0, 17);
        CHECKS.due("fuel for one", ring.pass(1), 1);
        CHECKS.dueRow("the lowest is done", booking -> ring.booking(booking, 3), Rings.UNKNOWN, 2, 2, 2);
        ring.fill(0, 0, 34);
        CHECKS.due("fuel for two", ring.pass(1), 2);
        CHECKS.dueRow("the lowest two are done", booking -> ring.booking(booking, 3),
                Rings.UNKNOWN, Rings.UNKNOWN, Rings.UNKNOWN, 2);
        MachineRing breaks = ringOf(0);
        breaks.set(0, 10);
        Rings.bookText(breaks, "5m0+1h4,4m0+1h6,3m0+1h1,2m0+1h1");
        CHECKS.due("it breaks by the second", breaks.pass(1), 2);
        CHECKS.dueRow("the others are put off", booking -> breaks.booking(booking, 4),
                Rings.UNKNOWN, Rings.UNKNOWN, 1, 1);
    }

    /** Bookings done on day 3, which is dry, with what some hours (0 for none) on day 1 leave of some litres. */
    private static int doneWith(int kind, int litres, int hoursBefore, int hours) {
        MachineRing ring = new MachineRing();
        ring.buy(kind, kind, 10);
        ring.fill(0, 0, litres);
        ring.book(0, 0, 1, hoursBefore);
        ring.pass(1);
        ring.book(0, 0, 2, hours);
        return ring.pass(2);
    }

    private static void fuelIsEnough() {
        CHECKS.terms("or has less fuel than hours * use (as floats: (float) hours * use)");
        CHECKS.due("a tractor, exactly enough", doneWith(0, 17, 0, 2), 1);
        CHECKS.due("a tractor, a litre less", doneWith(0, 16, 0, 2), 0);
        CHECKS.due("a tractor, 8.5 for an hour", doneWith(0, 17, 1, 1), 1);
        CHECKS.due("a tractor, 8 for an hour", doneWith(0, 8, 0, 1), 0);
        CHECKS.due("a tractor, 102 for 12 hours", doneWith(0, 102, 0, 12), 1);
        CHECKS.due("a tractor, 101 for 12 hours", doneWith(0, 101, 0, 12), 0);
        CHECKS.due("a baler, exactly enough", doneWith(1, 21, 0, 4), 1);
        CHECKS.due("a baler, a litre less", doneWith(1, 20, 0, 4), 0);
        CHECKS.due("a baler, 5.25 for an hour", doneWith(1, 21, 3, 1), 1);
        CHECKS.due("a baler, 5 for an hour", doneWith(1, 5, 0, 1), 0);
        CHECKS.due("a combine, exactly enough", doneWith(2, 83, 0, 4), 1);
        CHECKS.due("a combine, a litre less", doneWith(2, 82, 0, 4), 0);
        CHECKS.due("a combine, 20.75 for an hour", doneWith(2, 83, 3, 1), 1);
        CHECKS.due("a combine, 20.5 for an hour", doneWith(2, 62, 2, 1), 0);
        CHECKS.due("a combine, 249 for 12 hours", doneWith(2, 249, 0, 12), 1);
        CHECKS.due("a combine, 248 for 12 hours", doneWith(2, 248, 0, 12), 0);
        MachineRing empty = new MachineRing();
        empty.buy(0, 0, 10);
        empty.book(0, 0, 1, 1);
        CHECKS.due("without fuel", empty.pass(1), 0);
        CHECKS.dueFloat("fuel(0)", empty.fuel(0), 0.0f);
        CHECKS.due("not charged", empty.farmer(0, 0), 0);
        CHECKS.due("no hours", empty.machine(0, 4), 0);
    }

    private static void putOffToTheNextDay() {
        CHECKS.terms("the booking is put off: to the next day, from the one behind the day of now on");
        MachineRing ring = new MachineRing();
        ring.buy(0, 0, 10);
        ring.book(0, 0, 1, 12);
        for (int day = 1; day <= 5; day++) {
            CHECKS.due("done", ring.pass(1), 0);
            CHECKS.due("its day", ring.booking(0, 2), day + 1);
            CHECKS.due("how often it was put off", ring.booking(0, 4), day);
            CHECKS.due("how often any was", ring.count(6), day);
            CHECKS.due("hours on the day behind now", ring.booked(0, 1), 12);
            CHECKS.due("it stands", ring.count(3), 1);
        }
        CHECKS.due("by pass(60), day by day", ring.pass(60), 0);
        CHECKS.due("its day", ring.booking(0, 2), 66);
        CHECKS.due("how often it was put off", ring.booking(0, 4), 65);
        MachineRing later = new MachineRing();
        later.buy(0, 0, 10);
        later.book(0, 0, 99, 1);
        later.pass(60);
        later.pass(38);
        CHECKS.due("not put off ahead of its day", later.booking(0, 4), 0);
        later.pass(1);
        CHECKS.due("put off on its day", later.booking(0, 4), 1);
        CHECKS.due("from day 99 to 100", later.booking(0, 2), 100);
    }

    private static void putOffBehindFullDays() {
        CHECKS.terms("on which the hours for which the machine is booked and these are together at most 12");
        for (int there = 1; there <= 12; there++) {
            for (int hours = 1; hours <= 12; hours++) {
                MachineRing ring = new MachineRing();
                ring.buy(0, 0, 10);
                ring.buy(0, 0, 10);
                ring.book(1, 0, 2, there);
                ring.book(2, 1, 3, 12);
                ring.book(3, 0, 1, hours);
                ring.pass(1);
                CHECKS.due(hours + " hours to a day with " + there, ring.booking(2, 2), there + hours <= 12 ? 2 : 3);
            }
        }
        MachineRing full = Rings.full();
        CHECKS.due("pass(1) of the full ring", full.pass(1), 1);
        CHECKS.dueRow("machine 0 is broken, day 2 is wet", booking -> full.booking(1 + booking, 2),
                7, 7, 7, Rings.UNKNOWN, 7, 7, 3);
        CHECKS.due("booked(0, 5)", full.booked(0, 5), 12);
        MachineRing ring = new MachineRing();
        ring.buy(0, 0, 10);
        for (int in = 1; in <= 30; in++) {
            ring.book(0, 0, in, in == 1 ? 7 : 6);
        }
        ring.pass(1);
        CHECKS.due("7 hours find no day behind 6", ring.booking(0, 2), 31);
        ring.pass(1);
        CHECKS.due("6 hours go to the next day", ring.booking(1, 2), 3);
        CHECKS.due("which is full then", ring.booked(0, 1), 12);
        ring.pass(1);
        CHECKS.due("6 and 6 go to different days", ring.booking(1, 2), 4);
        CHECKS.due("by numbers", ring.booking(2, 2), 5);
    }

    /** Day 2 is wet, and balers do not work on it: the booking is put off to it all the same. */
    private static void putOffWhateverTheWeather() {
        CHECKS.terms("(whatever the weather will be)");
        MachineRing ring = new MachineRing();
        ring.buy(1, 1, 10);
        ring.book(0, 0, 1, 1);
        CHECKS.due("pass(1)", ring.pass(1), 0);
        CHECKS.due("day 2 is wet", ring.wet(1), 1);
        CHECKS.due("its day", ring.booking(0, 2), 2);
        ring.fill(0, 0, 100);
        CHECKS.due("pass(1)", ring.pass(1), 0);
        CHECKS.due("its day", ring.booking(0, 2), 3);
        CHECKS.due("pass(1)", ring.pass(1), 1);
    }

    private static void putOffOverTheYearsEnd() {
        CHECKS.terms("the booking is put off: to the next day");
        MachineRing ring = new MachineRing();
        ring.buy(0, 0, 10);
        Rings.passTo(ring, 358);
        ring.book(0, 0, 1, 1);
        CHECKS.due("told for the season 3", ring.booking(0, 5), 5);
        ring.pass(1);
        CHECKS.due("put off to the first day", ring.booking(0, 2), 360);
        CHECKS.due("told for the season 0", ring.booking(0, 5), 10);
        ring.fill(0, 0, 100);
        ring.pass(1);
        CHECKS.due("charged by the season 0", ring.farmer(0, 0), -10);
    }

    private static void workIsDone() {
        CHECKS.terms("Otherwise the work is done: fuel = fuel - (float) hours * use");
        MachineRing ring = ringOf(2);
        ring.book(3, 0, 1, 12);
        CHECKS.due("pass(1)", ring.pass(1), 1);
        CHECKS.dueFloat("fuel(0)", ring.fuel(0), 351.0f);

        CHECKS.terms("the farmer's account becomes less by the charge (the chest gets nothing by that)");
        CHECKS.dueRow("accounts", farmer -> ring.farmer(farmer, 0), 0, 0, 0, -192, 0, 0);
        CHECKS.due("what was charged", ring.farmer(3, 5), 192);
        CHECKS.due("the chest", ring.count(7), -1200);

        CHECKS.terms("the hours count; and the booking is gone");
        CHECKS.dueRow("hours of farmers", farmer -> ring.farmer(farmer, 2), 0, 0, 0, 12, 0, 0);
        CHECKS.dueRow("hours by farmers", farmer -> ring.hours(0, farmer), 0, 0, 0, 12, 0, 0);
        CHECKS.due("since it was mended", ring.machine(0, 3), 12);
        CHECKS.due("so far", ring.machine(0, 4), 12);
        CHECKS.due("the booking", ring.booking(0, 0), Rings.UNKNOWN);
        CHECKS.due("takeBack(0)", ring.takeBack(0), Rings.UNKNOWN);
        CHECKS.due("standing", ring.count(3), 0);
        CHECKS.due("of the farmer", ring.farmer(3, 4), 0);
        ring.book(3, 0, 2, 5);
        CHECKS.due("pass(3)", ring.pass(3), 1);
        CHECKS.due("hours of the farmer", ring.farmer(3, 2), 17);
        CHECKS.due("hours by the farmer", ring.hours(0, 3), 17);
        CHECKS.due("what was charged", ring.farmer(3, 5), 272);
    }

    private static void operators() {
        CHECKS.terms("6 coins for each hour more for an operator if the farmer has no licence for the kind");
        for (int kind = 0; kind < 3; kind++) {
            for (int hours = 1; hours <= 12; hours += 11) {
                MachineRing ring = ringOf(kind);
                ring.license(0, 7);
                ring.license(1, 7 - (1 << kind));
                ring.book(0, 0, 1, hours);
                ring.book(1, 0, 3, hours);
                CHECKS.due("told with a licence", ring.booking(0, 5), 10 * hours);
                CHECKS.due("told without", ring.booking(1, 5), 16 * hours);
                ring.pass(3);
                CHECKS.due("charged with a licence", ring.farmer(0, 0), -10 * hours);
                CHECKS.due("charged without", ring.farmer(1, 0), -16 * hours);
            }
        }
        MachineRing dear = ringOf(0);
        dear.license(0, 0);
        dear.setRate(0, 99);
        dear.book(0, 0, 95, 12);
        CHECKS.due("the dearest of all", dear.booking(0, 5), 1782 + 72);
    }

    private static void chargesRoundDown() {
        CHECKS.terms("The charge is (int) ((float) (hours * rate) * factor of the season) coins");
        int[][] told = {{1, 1, 1, 0}, {2, 3, 2, 1}, {3, 4, 3, 1}, {4, 6, 5, 2}, {5, 7, 6, 2}, {99, 148, 123, 49}};
        for (int[] charges : told) {
            MachineRing ring = ringOf(0);
            ring.setRate(0, charges[0]);
            for (int season = 0; season < 4; season++) {
                Rings.passTo(ring, 90 * season + 80);
                int booking = ring.book(0, 0, 1, 1);
                CHECKS.due("an hour at " + charges[0] + " in " + season, ring.booking(booking, 5), charges[season]);
                int before = ring.farmer(0, 5);
                ring.pass(1);
                CHECKS.due("charged for it", ring.farmer(0, 5) - before, charges[season]);
            }
        }
        MachineRing hours = ringOf(0);
        hours.setRate(0, 3);
        CHECKS.due("3 hours at 3, half: 4, not 3 times 1", halfOf(hours), 4);
    }

    private static int halfOf(MachineRing ring) {
        Rings.passTo(ring, 300);
        return ring.booking(ring.book(0, 0, 1, 3), 5);
    }

    // ---- machines that break

    /** Whether machine 0 is broken behind so many hours, with the setting 0 as given (but as it is at first for 0). */
    private static int brokenBehind(int hours, int setting) {
        MachineRing ring = ringOf(0);
        if (setting > 0) {
            ring.set(0, setting);
        }
        for (int left = hours; left > 0; left -= 12) {
            ring.fill(0, 0, 102);
            ring.book(0, 0, 1, Math.min(12, left));
            ring.pass(1);
        }
        CHECKS.due("hours since it was mended", ring.machine(0, 3), hours);
        CHECKS.due("machines that are broken", ring.count(12), ring.machine(0, 2));
        return ring.machine(0, 2);
    }

    private static void breaking() {
        CHECKS.terms("are as many as the setting 0 tells (10 to 200; 40 at first), or more");
        CHECKS.due("39 hours of 40 at first", brokenBehind(39, 0), 0);
        CHECKS.due("40 hours of 40 at first", brokenBehind(40, 0), 1);
        CHECKS.due("41 hours of 40 at first", brokenBehind(41, 0), 1);
        CHECKS.due("9 hours of 10", brokenBehind(9, 10), 0);
        CHECKS.due("10 hours of 10", brokenBehind(10, 10), 1);
        CHECKS.due("12 hours of 10", brokenBehind(12, 10), 1);
        CHECKS.due("199 hours of 200", brokenBehind(199, 200), 0);
        CHECKS.due("200 hours of 200", brokenBehind(200, 200), 1);
        CHECKS.due("204 hours of 200", brokenBehind(204, 200), 1);
        MachineRing shared = ringOf(0);
        shared.set(0, 12);
        Rings.bookText(shared, "0m0+1h6,1m0+1h5");
        shared.pass(1);
        CHECKS.due("11 hours of two", shared.machine(0, 2), 0);
        shared.book(2, 0, 1, 1);
        shared.pass(1);
        CHECKS.due("12 hours of three", shared.machine(0, 2), 1);
        shared.mend(0);
        CHECKS.due("mended", shared.machine(0, 2), 0);
        shared.book(2, 0, 1, 11);
        shared.pass(1);
        CHECKS.due("11 since, 23 so far", shared.machine(0, 2), 0);
        shared.book(2, 0, 1, 1);
        shared.pass(1);
        CHECKS.due("12 since", shared.machine(0, 2), 1);
    }

    private static void breakingRightBehindWork() {
        CHECKS.terms("right behind work that it did, is broken from then on");
        MachineRing ring = ringOf(0);
        ring.book(0, 0, 1, 12);
        ring.pass(1);
        ring.set(0, 12);
        CHECKS.due("not by the setting", ring.machine(0, 2), 0);
        ring.pass(60);
        CHECKS.due("not by days", ring.machine(0, 2), 0);
        CHECKS.due("mend(0)", ring.mend(0), Rings.NONE);
        ring.book(1, 0, 1, 1);
        CHECKS.due("it works once more", ring.pass(1), 1);
        CHECKS.due("right behind that", ring.machine(0, 2), 1);
        ring.set(0, 200);
        ring.pass(60);
        CHECKS.due("from then on", ring.machine(0, 2), 1);
        CHECKS.due("and so it is mended", ring.mend(0), 1);
        MachineRing other = ringOf(0);
        other.buy(0, 0, 10);
        other.set(0, 10);
        Rings.bookText(other, "0m0+1h9,0m1+1h9");
        other.fill(0, 1, 300);
        other.pass(1);
        CHECKS.due("each by its own hours", other.count(12), 0);
    }

    private static void brokenAllTheSame() {
        CHECKS.terms("(it can be booked and filled all the same)");
        MachineRing ring = Rings.busy();
        CHECKS.due("broken", ring.machine(0, 2), 1);
        CHECKS.due("filled", ring.fill(0, 0, 500), Rings.FULL);
        CHECKS.due("filled", ring.fill(0, 0, 485), 970);
        CHECKS.due("booked", ring.book(0, 0, 1, 12), 5);
        CHECKS.due("booked by a text", Rings.bookText(ring, "0m0+3h12"), 1);
        CHECKS.due("rated", ring.setRate(0, 1), 20);
        CHECKS.due("it does not work", ring.pass(1), 0);
        CHECKS.due("put off", ring.booking(5, 4), 1);
        CHECKS.dueFloat("no fuel is used", ring.fuel(0), 600.0f);
        CHECKS.due("no hours count", ring.machine(0, 3), 10);
        CHECKS.due("mended", ring.mend(0), 0);
        CHECKS.due("it works again, as machine 3 does", ring.pass(1), 2);
        CHECKS.due("hours since then", ring.machine(0, 3), 5);
    }

    // ---- promises 11 to 13

    private static void pass() {
        CHECKS.promise(11, "Lets days pass");
        MachineRing passed = Rings.busy();
        passed.pass(1);
        CHECKS.due("behind a day", passed.count(0), 2);
        passed.pass(60);
        CHECKS.due("behind 60 more", passed.count(0), 62);

        CHECKS.promise(11, "days: 1 to 60");
        CHECKS.isAct("1 day", 0, r -> r.pass(1));
        CHECKS.isAct("60 days", 1, r -> r.pass(60));
        CHECKS.refused("0 days", Rings.BAD_VALUE, r -> r.pass(0));
        CHECKS.refused("61 days", Rings.BAD_VALUE, r -> r.pass(61));
        CHECKS.refused("-1 day", Rings.BAD_VALUE, r -> r.pass(-1));
        CHECKS.refused("the least days", Rings.BAD_VALUE, r -> r.pass(LEAST));
        CHECKS.refused("the greatest days", Rings.BAD_VALUE, r -> r.pass(MOST));
        CHECKS.refused(Rings::full, "61 days of the full ring", Rings.BAD_VALUE, r -> r.pass(61));
        MachineRing ring = ringOf(0);
        CHECKS.due("pass(60)", ring.pass(60), 0);
        CHECKS.due("the day of now", ring.count(0), 60);

        CHECKS.promise(11, "Returns how many bookings are done in them; BAD_VALUE");
        ring.set(0, 200);
        for (int n = 0; n < 30; n++) {
            ring.book(n % 6, 0, 1 + 2 * n, 2);
        }
        CHECKS.due("in a day", ring.pass(1), 1);
        CHECKS.due("in a day without any", ring.pass(1), 0);
        CHECKS.due("in 57 days", ring.pass(57), 29);
        CHECKS.due("in a day behind all", ring.pass(1), 0);
        CHECKS.due("done so far", ring.count(5), 30);
    }

    private static void set() {
        CHECKS.promise(12, "Sets a setting");
        MachineRing settings = new MachineRing();
        settings.set(0, 77);
        CHECKS.due("count(9)", settings.count(9), 77);
        CHECKS.due("count(10)", settings.count(10), 300);
        settings.set(1, 78);
        CHECKS.due("count(9)", settings.count(9), 77);
        CHECKS.due("count(10)", settings.count(10), 78);

        CHECKS.promise(12, "which: 0 or 1");
        CHECKS.isAct("which 0", 10, r -> r.set(0, 50));
        CHECKS.isAct("which 1", 300, r -> r.set(1, 50));
        CHECKS.refused("which -1", Rings.BAD_VALUE, r -> r.set(-1, 50));
        CHECKS.refused("which 2", Rings.BAD_VALUE, r -> r.set(2, 50));
        CHECKS.refused("the least", Rings.BAD_VALUE, r -> r.set(LEAST, 50));
        CHECKS.refused("the greatest", Rings.BAD_VALUE, r -> r.set(MOST, 50));

        CHECKS.promise(12, "value: in its range");
        CHECKS.isAct(MachineRing::new, "10", 40, r -> r.set(0, 10));
        CHECKS.isAct("200", 10, r -> r.set(0, 200));
        CHECKS.refused("9", Rings.BAD_VALUE, r -> r.set(0, 9));
        CHECKS.refused("201", Rings.BAD_VALUE, r -> r.set(0, 201));
        CHECKS.refused("the least hours", Rings.BAD_VALUE, r -> r.set(0, LEAST));
        CHECKS.refused("the greatest hours", Rings.BAD_VALUE, r -> r.set(0, MOST));
        CHECKS.isAct("a cost of 0", 300, r -> r.set(1, 0));
        CHECKS.isAct("a cost of 9999", 300, r -> r.set(1, 9999));
        CHECKS.refused("a cost of -1", Rings.BAD_VALUE, r -> r.set(1, -1));
        CHECKS.refused("a cost of 10000", Rings.BAD_VALUE, r -> r.set(1, 10000));
        CHECKS.refused("the least cost", Rings.BAD_VALUE, r -> r.set(1, LEAST));
        CHECKS.refused("the greatest cost", Rings.BAD_VALUE, r -> r.set(1, MOST));

        CHECKS.promise(12, "Returns the previous one; BAD_VALUE (which or value); NONE if it is so already");
        MachineRing ring = new MachineRing();
        CHECKS.due("the hours are as at first", ring.set(0, 40), Rings.NONE);
        CHECKS.due("the cost is as at first", ring.set(1, 300), Rings.NONE);
        CHECKS.due("states", ring.count(13), 0);
        CHECKS.due("set(0, 200)", ring.set(0, 200), 40);
        CHECKS.due("set(1, 200)", ring.set(1, 200), 300);
        CHECKS.due("set(0, 200)", ring.set(0, 200), Rings.NONE);
        CHECKS.due("set(1, 200)", ring.set(1, 200), Rings.NONE);
        CHECKS.due("set(0, 10)", ring.set(0, 10), 200);
        CHECKS.due("count(9)", ring.count(9), 10);
        CHECKS.due("count(10)", ring.count(10), 200);
        CHECKS.refused("NONE for the hours", Rings.NONE, r -> r.set(0, 10));
        CHECKS.refused("NONE for the cost", Rings.NONE, r -> r.set(1, 300));
        CHECKS.refused("BAD_VALUE by which, with the other's value", Rings.BAD_VALUE, r -> r.set(2, 10));
    }

    private static void setSeed() {
        CHECKS.promise(13, "Sets the seed of the weather");
        MachineRing seeded = new MachineRing();
        CHECKS.dueRow("wet without a seed", seeded::wet, 0, 0, 1, 0, 0, 0, 0, 1, 0, 1);
        seeded.setSeed(2);
        CHECKS.dueRow("two days earlier", seeded::wet, 1, 0, 0, 0, 0, 1, 0, 1);
        CHECKS.due("count(11)", seeded.count(11), 2);

        CHECKS.promise(13, "seed: 0 to 9999");
        CHECKS.isAct("the seed 0", 5, r -> r.setSeed(0));
        CHECKS.isAct("the seed 9999", 5, r -> r.setSeed(9999));
        CHECKS.refused("the seed -1", Rings.BAD_VALUE, r -> r.setSeed(-1));
        CHECKS.refused("the seed 10000", Rings.BAD_VALUE, r -> r.setSeed(10000));
        CHECKS.refused("the least seed", Rings.BAD_VALUE, r -> r.setSeed(LEAST));
        CHECKS.refused("the greatest seed", Rings.BAD_VALUE, r -> r.setSeed(MOST));

        CHECKS.promise(13, "Returns the previous one; BAD_VALUE; NONE if it is so already");
        MachineRing ring = new MachineRing();
        CHECKS.due("setSeed(0) at first", ring.setSeed(0), Rings.NONE);
        CHECKS.due("setSeed(9999)", ring.setSeed(9999), 0);
        CHECKS.due("setSeed(9999)", ring.setSeed(9999), Rings.NONE);
        CHECKS.due("setSeed(0)", ring.setSeed(0), 9999);
        CHECKS.due("count(11)", ring.count(11), 0);
        CHECKS.due("states", ring.count(13), 2);
        CHECKS.refused("NONE", Rings.NONE, r -> r.setSeed(5));
    }

    /** An object is used for at most 512 calls: the last of them answers as the first does. */
    private static void fiveHundredAndTwelveCalls() {
        CHECKS.begin("'An object is used for at most 512 calls after it has been made'");
        MachineRing ring = new MachineRing();
        for (int n = 1; n <= 508; n++) {
            ring.pass(60);
        }
        int day = 508 * 60;
        CHECKS.due("the 509th call: the day of now", ring.count(0), day);
        CHECKS.due("the 510th: the season", ring.count(1), day % 360 / 90);
        CHECKS.due("the 511th: the weather", ring.wet(99), isWet(day + 99, 0) ? 1 : 0);
        CHECKS.due("the 512th: undo()", ring.undo(), 3);
    }
}
