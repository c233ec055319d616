/** Promises 8 to 13: bookings, days, settings. Without a seed the wet days are 2, 7, 9, 14, 16, 23, 25, 30 .. */
public final class BookingsTests {
    private static final Checks CHECKS = new Checks();

    public static void main(String[] args) {
        book();
        bookBehindPutOffOnes();
        bookThirty();
        bookAll();
        bookAllOrNone();
        takeBack();
        pass();
        passByWeather();
        passByFuel();
        passByBreaking();
        passPuttingOff();
        passSeasons();
        passOperators();
        set();
        setSeed();
        CHECKS.end();
    }

    private static void book() {
        CHECKS.begin("promise 8, book");
        MachineRing ring = Rings.fuelled();
        CHECKS.due("book(0, 0, 1, 1)", ring.book(0, 0, 1, 1), 0);
        CHECKS.due("book(5, 0, 1, 11)", ring.book(5, 0, 1, 11), 1);
        CHECKS.due("book(5, 0, 1, 1)", ring.book(5, 0, 1, 1), Rings.NOT_POSSIBLE);
        CHECKS.due("book(5, 1, 1, 12)", ring.book(5, 1, 1, 12), 2);
        CHECKS.due("book(5, 0, 99, 12)", ring.book(5, 0, 99, 12), 3);
        CHECKS.dueRow("booking 3", what -> ring.booking(3, what), 5, 0, 99, 12, 0);
        CHECKS.due("count(3)", ring.count(3), 4);
        ring.takeBack(3);
        CHECKS.due("a number is never given again", ring.book(5, 0, 99, 12), 4);
        CHECKS.due("count(4)", ring.count(4), 5);
        CHECKS.isAct("book(0, 1, 1, 1)", 5, r -> r.book(0, 1, 1, 1));
        CHECKS.isAct("book() of a broken one", 5, r -> r.book(0, 0, 1, 1));
        CHECKS.isAct("book() of what is left of a day", 5, r -> r.book(2, 3, 2, 9));
        CHECKS.refused("book() of an hour more", Rings.NOT_POSSIBLE, r -> r.book(2, 3, 2, 10));
        CHECKS.refused("book(-1, 0, 0, 0)", Rings.UNKNOWN, r -> r.book(-1, 0, 0, 0));
        CHECKS.refused("book(6, 0, 1, 1)", Rings.UNKNOWN, r -> r.book(6, 0, 1, 1));
        CHECKS.refused("book(0, -1, 1, 1)", Rings.UNKNOWN, r -> r.book(0, -1, 1, 1));
        CHECKS.refused("book(0, 4, 100, 13)", Rings.UNKNOWN, r -> r.book(0, 4, 100, 13));
        CHECKS.refused("book(0, 0, 0, 1)", Rings.BAD_VALUE, r -> r.book(0, 0, 0, 1));
        CHECKS.refused("book(0, 0, 100, 1)", Rings.BAD_VALUE, r -> r.book(0, 0, 100, 1));
        CHECKS.refused("book(0, 0, 1, 0)", Rings.BAD_VALUE, r -> r.book(0, 0, 1, 0));
        CHECKS.refused("book(0, 2, 3, 13)", Rings.BAD_VALUE, r -> r.book(0, 2, 3, 13));
        CHECKS.refused("book(0, 2, 3, 1)", Rings.NOT_POSSIBLE, r -> r.book(0, 2, 3, 1));
    }

    private static void bookBehindPutOffOnes() {
        CHECKS.begin("promise 8, in the place of a booking that was put off");
        MachineRing ring = Rings.fuelled();
        ring.book(0, 1, 2, 1);
        ring.pass(2);
        CHECKS.due("booking(0, 4)", ring.booking(0, 4), 1);
        ring.pass(1);
        CHECKS.due("book()", ring.book(2, 0, 9, 7), 1);
        CHECKS.dueRow("booking 1", what -> ring.booking(1, what), 2, 0, 12, 7, 0);
    }

    private static void bookThirty() {
        CHECKS.begin("promise 8, thirty bookings");
        MachineRing ring = Rings.fuelled();
        for (int n = 0; n < 30; n++) {
            CHECKS.due("book " + n, ring.book(n % 6, 0, n + 1, 12), n);
        }
        CHECKS.due("one more", ring.book(0, 0, 40, 1), Rings.FULL);
        CHECKS.due("FULL ahead of NOT_POSSIBLE", ring.book(0, 0, 1, 1), Rings.FULL);
        CHECKS.due("BAD_VALUE ahead of FULL", ring.book(0, 0, 0, 1), Rings.BAD_VALUE);
        CHECKS.due("takeBack(7)", ring.takeBack(7), 29);
        CHECKS.due("no hours left", ring.book(0, 0, 1, 1), Rings.NOT_POSSIBLE);
        CHECKS.due("one more", ring.book(0, 0, 40, 1), 30);
        CHECKS.dueRow("booking 29", what -> ring.booking(29, what), 5, 0, 30, 12, 0);
        CHECKS.dueRow("booking 30", what -> ring.booking(30, what), 0, 0, 40, 1, 0);
        CHECKS.due("undo()", ring.undo(), 3);
        CHECKS.due("undo()", ring.undo(), 2);
        CHECKS.dueRow("booking 7", what -> ring.booking(7, what), 1, 0, 8, 12, 0);
        CHECKS.dueRow("booking 29", what -> ring.booking(29, what), 5, 0, 30, 12, 0);
    }

    private static void bookAll() {
        CHECKS.begin("promise 9, bookAll");
        MachineRing ring = Rings.fuelled();
        CHECKS.due("of three", Rings.bookText(ring, "0m0+1h12,5m1+99h1,3m0+10h10"), 3);
        CHECKS.dueRow("booking 0", what -> ring.booking(0, what), 0, 0, 1, 12, 0);
        CHECKS.dueRow("booking 1", what -> ring.booking(1, what), 5, 1, 99, 1, 0);
        CHECKS.dueRow("booking 2", what -> ring.booking(2, what), 3, 0, 10, 10, 0);
        CHECKS.due("the text stays", ring.count(14), 27);
        CHECKS.due("bookAll() again", ring.bookAll(), Rings.NOT_POSSIBLE);
        CHECKS.due("count(3)", ring.count(3), 3);
        CHECKS.due("undo() of them all", ring.undo(), 3);
        CHECKS.due("count(3)", ring.count(3), 0);
        CHECKS.due("bookAll()", ring.bookAll(), 3);
        CHECKS.due("count(4)", ring.count(4), 3);
        CHECKS.due("of seven",
                Rings.bookText(ring, "1m1+1h1,1m1+2h1,1m1+3h1,1m1+4h1,1m1+5h1,1m1+6h1,1m1+7h1"), 7);
        CHECKS.dueRow("booking 9", what -> ring.booking(9, what), 1, 1, 7, 1, 0);
        CHECKS.isAct(() -> Rings.busy("0m3+1h1,2m2+99h12"), "bookAll()", 2, r -> r.bookAll());
        CHECKS.isAct("bookAll() of one", 1, r -> r.bookAll());
    }

    private static void bookAllOrNone() {
        CHECKS.begin("promise 9, all or none");
        refusedText("0m3+1h7,2m3+1h6", Rings.NOT_POSSIBLE);
        refusedText("0m3+1h6,2m3+1h6,0m2+3h1", Rings.NOT_POSSIBLE);
        refusedText("0m3+1h1,2m5+10h12", Rings.UNKNOWN);
        refusedText("0m4+1h1,2m2+3h12", Rings.UNKNOWN);
        refusedText("0m2+3h1,2m4+3h12", Rings.NOT_POSSIBLE);
        refusedText("0m3+1h1,2m2+99k12", Rings.TEXT_FAULT - 14);
        refusedText("0m4+1h1,", Rings.TEXT_FAULT - 8);
        refusedText("", Rings.TEXT_FAULT);
        MachineRing ring = Rings.fuelled();
        for (int n = 0; n < 29; n++) {
            ring.book(n % 6, 0, n + 1, 12);
        }
        CHECKS.due("one too many", Rings.bookText(ring, "0m1+1h1,0m1+2h1"), Rings.FULL);
        CHECKS.due("count(3)", ring.count(3), 29);
        CHECKS.due("count(4)", ring.count(4), 29);
        CHECKS.due("count(13)", ring.count(13), 4);
        CHECKS.due("FULL ahead of NOT_POSSIBLE", Rings.bookText(ring, "0m1+1h1,0m0+1h1"), Rings.FULL);
        CHECKS.due("UNKNOWN ahead of FULL", Rings.bookText(ring, "0m1+1h1,0m3+1h1"), Rings.UNKNOWN);
        CHECKS.due("the last one", Rings.bookText(ring, "0m1+1h1"), 1);
        CHECKS.dueRow("booking 29", what -> ring.booking(29, what), 0, 1, 1, 1, 0);
        CHECKS.due("none more", Rings.bookText(ring, "0m1+2h1"), Rings.FULL);
        CHECKS.due("count(4)", ring.count(4), 30);
    }

    private static void refusedText(String text, int want) {
        CHECKS.refused(() -> Rings.busy(text), "bookAll() of " + text, want, r -> r.bookAll());
    }

    private static void takeBack() {
        CHECKS.begin("promise 10, takeBack");
        MachineRing ring = Rings.fuelled();
        Rings.bookText(ring, "0m0+1h6,1m0+1h6,2m0+2h1");
        CHECKS.due("takeBack(1)", ring.takeBack(1), 2);
        CHECKS.due("takeBack(1)", ring.takeBack(1), Rings.UNKNOWN);
        CHECKS.dueRow("farmer of", booking -> ring.booking(booking, 0), 0, Rings.UNKNOWN, 2);
        CHECKS.due("booked(0, 1)", ring.booked(0, 1), 6);
        CHECKS.due("takeBack(2)", ring.takeBack(2), 1);
        CHECKS.due("takeBack(0)", ring.takeBack(0), 0);
        CHECKS.due("count(4)", ring.count(4), 3);
        CHECKS.due("count(5)", ring.count(5), 0);
        CHECKS.due("a number is never given again", ring.book(0, 0, 1, 1), 3);
        CHECKS.isAct("takeBack(2)", 2, r -> r.takeBack(2));
        CHECKS.isAct("takeBack(4)", 2, r -> r.takeBack(4));
        CHECKS.refused("takeBack(-1)", Rings.UNKNOWN, r -> r.takeBack(-1));
        CHECKS.refused("takeBack(5)", Rings.UNKNOWN, r -> r.takeBack(5));
        CHECKS.refused("takeBack() of a done one", Rings.UNKNOWN, r -> r.takeBack(0));
    }

    private static void pass() {
        CHECKS.begin("promise 11, pass");
        MachineRing ring = Rings.fuelled();
        CHECKS.due("pass(1)", ring.pass(1), 0);
        CHECKS.due("count(0)", ring.count(0), 1);
        CHECKS.due("pass(60)", ring.pass(60), 0);
        CHECKS.due("count(0)", ring.count(0), 61);
        Rings.bookText(ring, "0m0+1h1,1m0+2h2,2m0+3h3");
        CHECKS.due("pass(2)", ring.pass(2), 2);
        CHECKS.due("count(3)", ring.count(3), 1);
        CHECKS.due("count(5)", ring.count(5), 2);
        CHECKS.due("booking(0, 0)", ring.booking(0, 0), Rings.UNKNOWN);
        CHECKS.due("booking(2, 2)", ring.booking(2, 2), 64);
        CHECKS.dueRow("hours", farmer -> ring.farmer(farmer, 2), 1, 2, 0, 0, 0, 0);
        CHECKS.dueRow("hours on it", farmer -> ring.hours(0, farmer), 1, 2, 0, 0, 0, 0);
        CHECKS.dueRow("accounts", farmer -> ring.farmer(farmer, 0), -20, -40, 0, 0, 0, 0);
        CHECKS.dueRow("machine 0", what -> ring.machine(0, what), 0, 20, 0, 3, 3, 0);
        CHECKS.dueFloat("fuel(0)", ring.fuel(0), 474.5f);
        CHECKS.due("the chest gets nothing", ring.count(7), -3000);
        CHECKS.isAct("pass(1)", 0, r -> r.pass(1));
        CHECKS.isAct("pass(60)", 1, r -> r.pass(60));
        CHECKS.refused("pass(0)", Rings.BAD_VALUE, r -> r.pass(0));
        CHECKS.refused("pass(61)", Rings.BAD_VALUE, r -> r.pass(61));
        CHECKS.refused("pass(-1)", Rings.BAD_VALUE, r -> r.pass(-1));
    }

    private static void passByWeather() {
        CHECKS.begin("promise 11, weather");
        MachineRing ring = Rings.fuelled();
        Rings.bookText(ring, "0m0+2h1,0m1+2h1,0m2+2h1");
        CHECKS.due("pass(2) to a wet day", ring.pass(2), 1);
        CHECKS.dueRow("day of booking", booking -> ring.booking(booking, 2), Rings.UNKNOWN, 3, 3);
        CHECKS.dueRow("put off", booking -> ring.booking(booking, 4), Rings.UNKNOWN, 1, 1);
        CHECKS.due("count(6)", ring.count(6), 2);
        CHECKS.due("pass(1) to a dry day", ring.pass(1), 2);
        CHECKS.dueRow("hours", machine -> ring.machine(machine, 4), 1, 1, 1);
        MachineRing empty = Rings.fuelled();
        empty.buy(1, 1, 5);
        Rings.bookText(empty, "0m3+1h1");
        CHECKS.due("pass(1) without fuel", empty.pass(1), 0);
        CHECKS.due("put off to a wet day", empty.booking(0, 2), 2);
        empty.fill(0, 3, 10);
        CHECKS.due("pass(1) to that", empty.pass(1), 0);
        CHECKS.due("put off again", empty.booking(0, 2), 3);
        CHECKS.due("booking(0, 4)", empty.booking(0, 4), 2);
        CHECKS.due("pass(1)", empty.pass(1), 1);
        MachineRing seeded = Rings.fuelled();
        seeded.setSeed(1);
        Rings.bookText(seeded, "0m1+1h1,0m1+2h1");
        CHECKS.due("day 1 is wet by the seed 1", seeded.pass(1), 0);
        CHECKS.due("day 2 is dry by it", seeded.pass(1), 2);
    }

    private static void passByFuel() {
        CHECKS.begin("promise 11, fuel");
        MachineRing ring = new MachineRing();
        ring.buy(0, 0, 20);
        ring.fill(0, 0, 17);
        Rings.bookText(ring, "0m0+1h3,1m0+1h2,2m0+1h1");
        CHECKS.due("17 litres are enough for number 1 alone", ring.pass(1), 1);
        CHECKS.dueFloat("fuel(0)", ring.fuel(0), 0.0f);
        CHECKS.dueRow("day of booking", booking -> ring.booking(booking, 2), 2, Rings.UNKNOWN, 2);
        ring.fill(0, 0, 33);
        CHECKS.due("33 for number 0", ring.pass(1), 1);
        CHECKS.dueRow("day of booking", booking -> ring.booking(booking, 2), Rings.UNKNOWN, Rings.UNKNOWN, 3);
        CHECKS.dueFloat("fuel(0)", ring.fuel(0), 7.5f);
        CHECKS.due("7.5 are too few", ring.pass(1), 0);
        ring.fill(0, 0, 1);
        CHECKS.due("8.5 are enough", ring.pass(1), 1);
        MachineRing others = Rings.fuelled();
        others.book(0, 2, 1, 12);
        others.book(0, 1, 1, 12);
        CHECKS.due("pass(1)", others.pass(1), 2);
        CHECKS.dueFloat("a baler takes 63", others.fuel(1), 437.0f);
        CHECKS.dueFloat("a combine takes 249", others.fuel(2), 251.0f);
    }

    private static void passByBreaking() {
        CHECKS.begin("promise 11, breaking");
        MachineRing ring = Rings.fuelled();
        ring.set(0, 10);
        Rings.bookText(ring, "0m0+1h9,1m0+2h1,2m0+2h1");
        ring.pass(1);
        CHECKS.due("9 hours are too few", ring.machine(0, 2), 0);
        CHECKS.due("it breaks behind number 1", ring.pass(1), 1);
        CHECKS.due("machine(0, 2)", ring.machine(0, 2), 1);
        CHECKS.due("count(12)", ring.count(12), 1);
        CHECKS.due("booking(2, 2)", ring.booking(2, 2), 3);
        CHECKS.due("pass(1)", ring.pass(1), 0);
        CHECKS.due("booking(2, 4)", ring.booking(2, 4), 2);
        CHECKS.due("fill() of it", ring.fill(0, 0, 1), 2);
        CHECKS.due("book() of it", ring.book(0, 0, 1, 1), 3);
        ring.mend(0);
        CHECKS.due("pass(1) when mended", ring.pass(1), 2);
        CHECKS.dueRow("machine 0", what -> ring.machine(0, what), 0, 20, 0, 2, 12);
        MachineRing set = Rings.fuelled();
        Rings.bookText(set, "0m0+1h12,0m0+2h12,0m0+5h1,0m0+5h1");
        set.pass(3);
        set.set(0, 10);
        CHECKS.due("not broken by a setting", set.machine(0, 2), 0);
        CHECKS.due("not broken by a day without work", set.pass(1) + set.machine(0, 2), 0);
        CHECKS.due("broken behind work", set.pass(1), 1);
        CHECKS.due("machine(0, 2)", set.machine(0, 2), 1);
        set.set(0, 200);
        CHECKS.due("nor mended by a setting", set.machine(0, 2), 1);
    }

    private static void passPuttingOff() {
        CHECKS.begin("promise 11, putting off");
        MachineRing ring = new MachineRing();
        ring.buy(0, 0, 20);
        ring.buy(0, 0, 20);
        Rings.bookText(ring, "0m0+1h6,1m0+1h5,2m0+2h6,3m0+3h8,4m1+2h12");
        CHECKS.due("pass(1)", ring.pass(1), 0);
        CHECKS.dueRow("6 and 6 go together, 5 do not, nor 5 and 8",
                booking -> ring.booking(booking, 2), 2, 4, 2, 3, 2);
        CHECKS.due("count(6)", ring.count(6), 2);
        CHECKS.due("booked(0, 1)", ring.booked(0, 1), 12);
        CHECKS.due("pass(1)", ring.pass(1), 0);
        CHECKS.dueRow("6 and 8 do not go together, 6 and 5 do",
                booking -> ring.booking(booking, 2), 4, 4, 5, 3, 3);
        CHECKS.dueRow("put off", booking -> ring.booking(booking, 4), 2, 1, 1, 0, 1);
        CHECKS.due("count(6)", ring.count(6), 5);
        MachineRing full = new MachineRing();
        full.buy(0, 0, 20);
        for (int n = 1; n <= 30; n++) {
            full.book(0, 0, n, 12);
        }
        CHECKS.due("pass(1)", full.pass(1), 0);
        CHECKS.due("behind all others", full.booking(0, 2), 31);
        CHECKS.due("pass(2)", full.pass(2), 0);
        CHECKS.due("booking(1, 2)", full.booking(1, 2), 32);
        CHECKS.due("booking(2, 2)", full.booking(2, 2), 33);
    }

    /** Charges of an hour at 33 in the five seasons from the first on. */
    private static void passSeasons() {
        CHECKS.begin("promise 11, seasons");
        int[] charges = {33, 49, 41, 16, 33};
        MachineRing ring = Rings.fuelled();
        ring.setRate(0, 33);
        int account = 0;
        for (int season = 0; season < 4; season++) {
            Rings.passTo(ring, season * 90 + 88);
            int last = ring.book(3, 0, 1, 1);
            int first = ring.book(3, 0, 2, 1);
            CHECKS.due("told for the last day", ring.booking(last, 5), charges[season]);
            CHECKS.due("told for the first day", ring.booking(first, 5), charges[season + 1]);
            CHECKS.due("pass(1) to the last day", ring.pass(1), 1);
            account -= charges[season];
            CHECKS.due("account", ring.farmer(3, 0), account);
            CHECKS.due("count(1)", ring.count(1), season);
            CHECKS.due("pass(1) to the first day", ring.pass(1), 1);
            account -= charges[season + 1];
            CHECKS.due("account", ring.farmer(3, 0), account);
            CHECKS.due("count(1)", ring.count(1), (season + 1) % 4);
        }
        CHECKS.due("charged", ring.farmer(3, 5), -account);
        CHECKS.due("count(0)", ring.count(0), 360);
    }

    private static void passOperators() {
        CHECKS.begin("promise 11, operators");
        MachineRing ring = Rings.fuelled();
        ring.license(1, 6);
        ring.license(2, 7);
        ring.license(3, 0);
        for (int farmer = 0; farmer < 4; farmer++) {
            for (int machine = 0; machine < 3; machine++) {
                ring.book(farmer, machine, 1, 2);
            }
        }
        CHECKS.dueRow("charge told", booking -> ring.booking(booking, 5),
                40, 78, 112, 52, 66, 100, 40, 66, 100, 52, 78, 112);
        CHECKS.due("pass(1)", ring.pass(1), 12);
        CHECKS.dueRow("account", farmer -> ring.farmer(farmer, 0), -230, -218, -206, -242, 0, 0);
        CHECKS.due("count(8)", ring.count(8), -896);
        CHECKS.due("the chest gets nothing", ring.count(7), -3000);
        Rings.passTo(ring, 99);
        int number = ring.book(0, 1, 1, 3);
        CHECKS.due("no factor on operators", ring.booking(number, 5), 148 + 18);
        ring.license(0, 2);
        ring.setRate(1, 9);
        CHECKS.due("by the rate and the licence of that day", ring.booking(number, 5), 40);
        CHECKS.due("pass(1)", ring.pass(1), 1);
        CHECKS.due("account", ring.farmer(0, 0), -270);
    }

    private static void set() {
        CHECKS.begin("promise 12, set");
        MachineRing ring = new MachineRing();
        CHECKS.due("set(0, 10)", ring.set(0, 10), 40);
        CHECKS.due("set(0, 200)", ring.set(0, 200), 10);
        CHECKS.due("set(1, 0)", ring.set(1, 0), 300);
        CHECKS.due("set(1, 9999)", ring.set(1, 9999), 0);
        CHECKS.due("count(9)", ring.count(9), 200);
        CHECKS.due("count(10)", ring.count(10), 9999);
        CHECKS.isAct("set(0, 11)", 10, r -> r.set(0, 11));
        CHECKS.isAct("set(1, 5)", 300, r -> r.set(1, 5));
        CHECKS.refused("set(-1, 50)", Rings.BAD_VALUE, r -> r.set(-1, 50));
        CHECKS.refused("set(2, 50)", Rings.BAD_VALUE, r -> r.set(2, 50));
        CHECKS.refused("set(0, 9)", Rings.BAD_VALUE, r -> r.set(0, 9));
        CHECKS.refused("set(0, 201)", Rings.BAD_VALUE, r -> r.set(0, 201));
        CHECKS.refused("set(1, -1)", Rings.BAD_VALUE, r -> r.set(1, -1));
        CHECKS.refused("set(1, 10000)", Rings.BAD_VALUE, r -> r.set(1, 10000));
        CHECKS.refused("set(0, 10)", Rings.NONE, r -> r.set(0, 10));
        CHECKS.refused("set(1, 300)", Rings.NONE, r -> r.set(1, 300));
    }

    private static void setSeed() {
        CHECKS.begin("promise 13, setSeed");
        MachineRing ring = new MachineRing();
        CHECKS.due("setSeed(9999)", ring.setSeed(9999), 0);
        CHECKS.due("count(11)", ring.count(11), 9999);
        CHECKS.due("setSeed(0)", ring.setSeed(0), 9999);
        CHECKS.due("count(11)", ring.count(11), 0);
        CHECKS.isAct("setSeed(7)", 5, r -> r.setSeed(7));
        CHECKS.refused("setSeed(-1)", Rings.BAD_VALUE, r -> r.setSeed(-1));
        CHECKS.refused("setSeed(10000)", Rings.BAD_VALUE, r -> r.setSeed(10000));
        CHECKS.refused("setSeed(5)", Rings.NONE, r -> r.setSeed(5));
    }
}
