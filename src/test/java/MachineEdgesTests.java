/** The edges of promises 1 to 7 and of the terms on farmers, machines, sheds, fuel and mending: a test a sentence. */
public final class MachineEdgesTests {
    private static final Checks CHECKS = new Checks();
    private static final int LEAST = Integer.MIN_VALUE;
    private static final int MOST = Integer.MAX_VALUE;

    public static void main(String[] args) {
        farmersAreSix();
        accountsCrossZero();
        tractorsAreLicensedAtFirst();
        licencesAreBits();
        kindsAreThree();
        shedsAreThree();
        placesAreTwo();
        shedsAreForOneKind();
        machinesAreSix();
        ratesCharge();
        usesAreExact();
        chestBeginsAtZero();
        newRing();
        buy();
        license();
        setRate();
        fill();
        mend();
        pay();
        CHECKS.end();
    }

    /** Machine 0, of a kind, with fuel for all that these tests do. */
    private static MachineRing ringOf(int kind, int rate) {
        MachineRing ring = new MachineRing();
        ring.buy(kind, kind, rate);
        ring.fill(5, 0, 500);
        return ring;
    }

    // ---- terms

    private static void farmersAreSix() {
        CHECKS.terms("There are 6 farmers, numbered from 0");
        MachineRing ring = new MachineRing();
        CHECKS.due("the account of -1", ring.farmer(-1, 0), Rings.UNKNOWN);
        for (int farmer = 0; farmer < 6; farmer++) {
            CHECKS.due("pay() of " + farmer, ring.pay(farmer, farmer + 1), farmer + 1);
        }
        CHECKS.dueRow("each has an account", farmer -> ring.farmer(farmer, 0), 1, 2, 3, 4, 5, 6, Rings.UNKNOWN);
    }

    private static void accountsCrossZero() {
        CHECKS.terms("(0 at first, may be below 0)");
        MachineRing ring = ringOf(0, 1);
        CHECKS.dueRow("accounts", farmer -> ring.farmer(farmer, 0), 0, 0, 0, 0, 0, 0);
        ring.book(0, 0, 1, 1);
        ring.book(0, 0, 2, 2);
        CHECKS.due("pass(1)", ring.pass(1), 1);
        CHECKS.due("a coin below 0", ring.farmer(0, 0), -1);
        CHECKS.due("to 0", ring.pay(0, 1), 0);
        CHECKS.due("above 0", ring.pay(0, 1), 1);
        CHECKS.due("pass(1)", ring.pass(1), 1);
        CHECKS.due("below 0 again", ring.farmer(0, 0), -1);
        CHECKS.due("the sum is below 0", ring.count(8), -1);
    }

    private static void tractorsAreLicensedAtFirst() {
        CHECKS.terms("(1 at first: tractors)");
        MachineRing ring = Rings.fuelled();
        CHECKS.dueRow("licences", farmer -> ring.farmer(farmer, 1), 1, 1, 1, 1, 1, 1);
        for (int machine = 0; machine < 3; machine++) {
            ring.setRate(machine, 1);
            ring.book(4, machine, 1, 1);
        }
        CHECKS.dueRow("an operator but for tractors", booking -> ring.booking(booking, 5), 1, 7, 7);
    }

    private static void licencesAreBits() {
        CHECKS.terms("a set of kinds as bits, 2^k for the kind k");
        MachineRing ring = Rings.fuelled();
        for (int machine = 0; machine < 3; machine++) {
            ring.setRate(machine, 1);
            ring.book(4, machine, 1, 1);
        }
        for (int kinds = 0; kinds < 8; kinds++) {
            ring.license(4, kinds);
            CHECKS.due("the licences", ring.farmer(4, 1), kinds);
            CHECKS.due("a tractor with " + kinds, ring.booking(0, 5), kinds % 2 == 1 ? 1 : 7);
            CHECKS.due("a baler with " + kinds, ring.booking(1, 5), kinds / 2 % 2 == 1 ? 1 : 7);
            CHECKS.due("a combine with " + kinds, ring.booking(2, 5), kinds >= 4 ? 1 : 7);
        }
    }

    private static void kindsAreThree() {
        CHECKS.terms("There are 3 kinds: 0 tractors, 1 balers, 2 combines");
        MachineRing ring = new MachineRing();
        CHECKS.due("buy(-1, 0, 1)", ring.buy(-1, 0, 1), Rings.BAD_VALUE);
        CHECKS.due("buy(0, 0, 1)", ring.buy(0, 0, 1), 0);
        CHECKS.due("buy(1, 1, 1)", ring.buy(1, 1, 1), 1);
        CHECKS.due("buy(2, 2, 1)", ring.buy(2, 2, 1), 2);
        CHECKS.due("buy(3, 2, 1)", ring.buy(3, 2, 1), Rings.BAD_VALUE);
        CHECKS.dueRow("kinds", machine -> ring.machine(machine, 0), 0, 1, 2, Rings.UNKNOWN);
    }

    private static void shedsAreThree() {
        CHECKS.terms("There are 3 sheds, numbered from 0");
        MachineRing ring = new MachineRing();
        CHECKS.due("buy(0, -1, 1)", ring.buy(0, -1, 1), Rings.UNKNOWN);
        CHECKS.due("buy(2, 3, 1)", ring.buy(2, 3, 1), Rings.UNKNOWN);
        CHECKS.due("buy(0, 0, 1)", ring.buy(0, 0, 1), 0);
        CHECKS.due("buy(2, 2, 1)", ring.buy(2, 2, 1), 1);
    }

    private static void placesAreTwo() {
        CHECKS.terms("with 2 places each");
        for (int shed = 0; shed < 3; shed++) {
            MachineRing ring = new MachineRing();
            CHECKS.due("the first", ring.buy(shed, shed, 1), 0);
            CHECKS.due("the second", ring.buy(shed, shed, 1), 1);
            CHECKS.due("the third", ring.buy(shed, shed, 1), Rings.FULL);
            CHECKS.dueRow("places", machine -> ring.machine(machine, 5), 0, 1, Rings.UNKNOWN);
            int other = (shed + 1) % 3;
            CHECKS.due("another shed has its own", ring.buy(other, other, 1), 2);
            CHECKS.due("machine(2, 5)", ring.machine(2, 5), 0);
        }
    }

    private static void shedsAreForOneKind() {
        CHECKS.terms("for machines of one kind alone: the shed k for the kind k");
        for (int kind = 0; kind < 3; kind++) {
            for (int shed = 0; shed < 3; shed++) {
                CHECKS.due("buy(" + kind + ", " + shed + ", 1)", new MachineRing().buy(kind, shed, 1),
                        kind == shed ? 0 : Rings.NOT_POSSIBLE);
            }
        }
    }

    private static void machinesAreSix() {
        CHECKS.terms("At most 6 machines come ever, numbered from 0; each stands in a place of a shed");
        MachineRing ring = new MachineRing();
        int[] kinds = {2, 0, 2, 1, 0, 1};
        for (int n = 0; n < 6; n++) {
            CHECKS.due("machine " + n + " ahead of it", ring.machine(n, 0), Rings.UNKNOWN);
            CHECKS.due("buy " + n, ring.buy(kinds[n], kinds[n], 1), n);
            CHECKS.due("count(2)", ring.count(2), n + 1);
        }
        CHECKS.dueRow("kinds", machine -> ring.machine(machine, 0), 2, 0, 2, 1, 0, 1, Rings.UNKNOWN);
        CHECKS.dueRow("places", machine -> ring.machine(machine, 5), 0, 0, 1, 0, 1, 1, Rings.UNKNOWN);
        for (int kind = 0; kind < 3; kind++) {
            for (int shed = 0; shed < 3; shed++) {
                CHECKS.due("a seventh", ring.buy(kind, shed, 1), Rings.FULL);
            }
        }
        CHECKS.due("count(2)", ring.count(2), 6);
    }

    private static void ratesCharge() {
        CHECKS.terms("a rate (1 to 99 coins an hour)");
        MachineRing cheap = ringOf(0, 1);
        cheap.book(0, 0, 1, 1);
        cheap.pass(1);
        CHECKS.due("an hour at 1", cheap.farmer(0, 0), -1);
        MachineRing dear = ringOf(0, 99);
        dear.book(0, 0, 1, 12);
        dear.pass(1);
        CHECKS.due("12 hours at 99", dear.farmer(0, 0), -1188);
    }

    private static void usesAreExact() {
        CHECKS.terms("8.5f for tractors, 5.25f for balers, 20.75f for combines");
        float[] left = {491.5f, 494.75f, 479.25f};
        for (int kind = 0; kind < 3; kind++) {
            MachineRing ring = ringOf(kind, 1);
            ring.book(0, 0, 1, 1);
            ring.pass(1);
            CHECKS.dueFloat("an hour of the kind " + kind, ring.fuel(0), left[kind]);
        }
    }

    private static void chestBeginsAtZero() {
        CHECKS.terms("The ring has a chest with coins (0 at first; it may be below 0)");
        MachineRing ring = new MachineRing();
        CHECKS.due("at first", ring.count(7), 0);
        ring.buy(0, 0, 1);
        CHECKS.due("a machine costs nothing", ring.count(7), 0);
        ring.fill(0, 0, 1);
        CHECKS.due("below 0", ring.count(7), -2);
        ring.pay(0, 2);
        CHECKS.due("0", ring.count(7), 0);
        ring.pay(0, 1);
        CHECKS.due("above 0", ring.count(7), 1);
    }

    // ---- promise 1

    private static void newRing() {
        CHECKS.promise(1, "Creates a ring without machines");
        MachineRing ring = new MachineRing();
        CHECKS.dueRow("count", ring::count, 0, 0, 0, 0, 0, 0, 0, 0, 0, 40, 300, 0, 0, 0, 0, 0, 0, 0, Rings.BAD_VALUE);
        CHECKS.refused(MachineRing::new, "setRate(0, 1)", Rings.UNKNOWN, r -> r.setRate(0, 1));
        CHECKS.refused(MachineRing::new, "fill(0, 0, 1)", Rings.UNKNOWN, r -> r.fill(0, 0, 1));
        CHECKS.refused(MachineRing::new, "mend(0)", Rings.UNKNOWN, r -> r.mend(0));
        CHECKS.refused(MachineRing::new, "book(0, 0, 1, 1)", Rings.UNKNOWN, r -> r.book(0, 0, 1, 1));
        CHECKS.refused(MachineRing::new, "bookAll()", Rings.TEXT_FAULT, r -> r.bookAll());
        CHECKS.refused(MachineRing::new, "takeBack(0)", Rings.UNKNOWN, r -> r.takeBack(0));
        CHECKS.refused(MachineRing::new, "undo()", Rings.NONE, r -> r.undo());
        CHECKS.refused(MachineRing::new, "restore()", Rings.NONE, r -> r.restore());
        CHECKS.refused(MachineRing::new, "machine(0, 0)", Rings.UNKNOWN, r -> r.machine(0, 0));
        CHECKS.refused(MachineRing::new, "fuel(0)", -1, r -> (int) r.fuel(0));
        CHECKS.refused(MachineRing::new, "hours(0, 0)", Rings.UNKNOWN, r -> r.hours(0, 0));
        CHECKS.refused(MachineRing::new, "booking(0, 0)", Rings.UNKNOWN, r -> r.booking(0, 0));
        CHECKS.refused(MachineRing::new, "booked(0, 1)", Rings.UNKNOWN, r -> r.booked(0, 1));
        CHECKS.refused(MachineRing::new, "most(0)", Rings.UNKNOWN, r -> r.most(0));
        CHECKS.refused(MachineRing::new, "lasts(0)", Rings.UNKNOWN, r -> r.lasts(0));
        CHECKS.refused(MachineRing::new, "clearText()", 0, r -> r.clearText());
        CHECKS.isAct(MachineRing::new, "pass(60)", 0, r -> r.pass(60));
    }

    // ---- promise 2

    private static void buy() {
        CHECKS.promise(2, "A machine comes into a shed, to its first free place, without fuel");
        MachineRing ring = new MachineRing();
        ring.buy(1, 1, 5);
        ring.buy(1, 1, 6);
        CHECKS.dueRow("places", machine -> ring.machine(machine, 5), 0, 1);
        CHECKS.dueFloat("fuel(0)", ring.fuel(0), 0.0f);
        CHECKS.dueFloat("fuel(1)", ring.fuel(1), 0.0f);
        ring.fill(0, 1, 9);
        ring.undo();
        ring.undo();
        CHECKS.due("buy() behind undo()", ring.buy(1, 1, 7), 1);
        CHECKS.dueRow("its machine", what -> ring.machine(1, what), 1, 7, 0, 0, 0, 1, 0, 0);
        ring.undo();
        ring.undo();
        CHECKS.due("buy() behind undo() of both", ring.buy(1, 1, 8), 0);
        CHECKS.dueRow("its machine", what -> ring.machine(0, what), 1, 8, 0, 0, 0, 0, 0, 0);

        anotherMachineOfTheNumber();

        CHECKS.promise(2, "kind: 0 to 2");
        CHECKS.isAct(MachineRing::new, "the kind 0", 0, r -> r.buy(0, 0, 1));
        CHECKS.isAct(MachineRing::new, "the kind 2", 0, r -> r.buy(2, 2, 1));
        CHECKS.refused("the kind -1", Rings.BAD_VALUE, r -> r.buy(-1, 1, 1));
        CHECKS.refused("the kind 3", Rings.BAD_VALUE, r -> r.buy(3, 2, 1));
        CHECKS.refused("the least kind", Rings.BAD_VALUE, r -> r.buy(LEAST, 2, 1));
        CHECKS.refused("the greatest kind", Rings.BAD_VALUE, r -> r.buy(MOST, 2, 1));

        CHECKS.promise(2, "shed: 0 to 2");
        CHECKS.refused("the shed -1", Rings.UNKNOWN, r -> r.buy(0, -1, 1));
        CHECKS.refused("the shed 3", Rings.UNKNOWN, r -> r.buy(2, 3, 1));
        CHECKS.refused("the least shed", Rings.UNKNOWN, r -> r.buy(2, LEAST, 1));
        CHECKS.refused("the greatest shed", Rings.UNKNOWN, r -> r.buy(2, MOST, 1));

        CHECKS.promise(2, "rate: 1 to 99");
        CHECKS.due("the rate 0", ring.buy(0, 0, 0), Rings.BAD_VALUE);
        CHECKS.due("the rate 1", ring.buy(0, 0, 1), 1);
        CHECKS.due("the rate 99", ring.buy(0, 0, 99), 2);
        CHECKS.dueRow("rates", machine -> ring.machine(machine, 1), 8, 1, 99);
        CHECKS.refused("the rate 0", Rings.BAD_VALUE, r -> r.buy(2, 2, 0));
        CHECKS.refused("the rate 100", Rings.BAD_VALUE, r -> r.buy(2, 2, 100));
        CHECKS.refused("the rate -1", Rings.BAD_VALUE, r -> r.buy(2, 2, -1));
        CHECKS.refused("the least rate", Rings.BAD_VALUE, r -> r.buy(2, 2, LEAST));
        CHECKS.refused("the greatest rate", Rings.BAD_VALUE, r -> r.buy(2, 2, MOST));

        CHECKS.promise(2, "FULL if both places of the shed are taken");
        CHECKS.isAct("the second place", 4, r -> r.buy(2, 2, 1));
        CHECKS.refused("a third place", Rings.FULL, r -> r.buy(0, 0, 1));
        for (int shed = 0; shed < 3; shed++) {
            int full = shed;
            CHECKS.refused(Rings::full, "all is full", Rings.FULL, r -> r.buy(full, full, 1));
        }

        CHECKS.promise(2, "NOT_POSSIBLE if the shed is not for this kind");
        CHECKS.refused("a tractor to the balers", Rings.NOT_POSSIBLE, r -> r.buy(0, 1, 1));
        CHECKS.refused("a combine to the balers", Rings.NOT_POSSIBLE, r -> r.buy(2, 1, 1));

        CHECKS.promise(2, "Returns its number; UNKNOWN (shed); BAD_VALUE; FULL");
        CHECKS.refused("UNKNOWN ahead of BAD_VALUE (kind)", Rings.UNKNOWN, r -> r.buy(3, 3, 1));
        CHECKS.refused("UNKNOWN ahead of BAD_VALUE (rate)", Rings.UNKNOWN, r -> r.buy(0, -1, 100));
        CHECKS.refused("BAD_VALUE (kind) ahead of FULL", Rings.BAD_VALUE, r -> r.buy(3, 0, 1));
        CHECKS.refused("BAD_VALUE (rate) ahead of FULL", Rings.BAD_VALUE, r -> r.buy(0, 0, 0));
        CHECKS.refused("BAD_VALUE ahead of NOT_POSSIBLE", Rings.BAD_VALUE, r -> r.buy(0, 1, 100));
        CHECKS.refused("FULL ahead of NOT_POSSIBLE", Rings.FULL, r -> r.buy(1, 0, 1));
    }

    /** What the machine of a number was that is gone by restore() is not left to the next one. */
    private static void anotherMachineOfTheNumber() {
        CHECKS.promise(2, "without fuel");
        MachineRing ring = new MachineRing();
        ring.keep();
        ring.buy(0, 0, 9);
        ring.buy(0, 0, 9);
        ring.set(0, 10);
        ring.fill(0, 1, 500);
        ring.book(1, 1, 1, 12);
        ring.pass(1);
        ring.mend(1);
        ring.book(1, 1, 1, 12);
        ring.book(1, 0, 1, 12);
        ring.pass(1);
        CHECKS.due("put off", ring.booking(2, 4), 1);
        CHECKS.dueRow("machine 1", what -> ring.machine(1, what), 0, 9, 1, 12, 24, 1,
                Float.floatToIntBits(296.0f), 1);
        ring.restore();
        ring.buy(0, 0, 1);
        CHECKS.due("buy(2, 2, 8)", ring.buy(2, 2, 8), 1);
        CHECKS.dueRow("machine 1", what -> ring.machine(1, what), 2, 8, 0, 0, 0, 0, 0, 0);
        CHECKS.due("hours(1, 1)", ring.hours(1, 1), 0);
        CHECKS.due("book()", ring.book(2, 0, 1, 1), 0);
        CHECKS.due("not put off", ring.booking(0, 4), 0);
        ring.restore();
        ring.undo();
        CHECKS.dueRow("machine 1", what -> ring.machine(1, what), 2, 8, 0, 0, 0, 0, 0, 0);
    }

    // ---- promise 3

    private static void license() {
        CHECKS.promise(3, "farmer: 0 to 5");
        CHECKS.isAct("farmer 0", 1, r -> r.license(0, 2));
        CHECKS.isAct("farmer 5", 1, r -> r.license(5, 2));
        CHECKS.refused("farmer -1", Rings.UNKNOWN, r -> r.license(-1, 2));
        CHECKS.refused("farmer 6", Rings.UNKNOWN, r -> r.license(6, 2));
        CHECKS.refused("the least farmer", Rings.UNKNOWN, r -> r.license(LEAST, 2));
        CHECKS.refused("the greatest farmer", Rings.UNKNOWN, r -> r.license(MOST, 2));

        CHECKS.promise(3, "kinds: a set of kinds, 0 to 7");
        CHECKS.isAct("no kind", 1, r -> r.license(0, 0));
        CHECKS.isAct("all kinds", 1, r -> r.license(0, 7));
        CHECKS.refused("kinds -1", Rings.BAD_VALUE, r -> r.license(0, -1));
        CHECKS.refused("kinds 8", Rings.BAD_VALUE, r -> r.license(0, 8));
        CHECKS.refused("kinds 9, that is 1 and 8", Rings.BAD_VALUE, r -> r.license(0, 9));
        CHECKS.refused("the least kinds", Rings.BAD_VALUE, r -> r.license(0, LEAST));
        CHECKS.refused("the greatest kinds", Rings.BAD_VALUE, r -> r.license(0, MOST));

        CHECKS.promise(3, "Changes the licences of a farmer");
        MachineRing changed = new MachineRing();
        changed.license(5, 6);
        CHECKS.dueRow("licences", farmer -> changed.farmer(farmer, 1), 1, 1, 1, 1, 1, 6);

        CHECKS.promise(3, "Returns the previous set; UNKNOWN; BAD_VALUE");
        MachineRing ring = new MachineRing();
        CHECKS.due("license(0, 7)", ring.license(0, 7), 1);
        CHECKS.due("license(0, 0)", ring.license(0, 0), 7);
        CHECKS.due("license(0, 4)", ring.license(0, 4), 0);
        CHECKS.refused("UNKNOWN ahead of BAD_VALUE", Rings.UNKNOWN, r -> r.license(6, 8));

        CHECKS.promise(3, "NONE if it is so already");
        CHECKS.refused("the first set", Rings.NONE, r -> r.license(5, 1));
        CHECKS.due("license(0, 4)", ring.license(0, 4), Rings.NONE);
        CHECKS.due("license(0, 0)", ring.license(0, 0), 4);
        CHECKS.due("license(0, 0)", ring.license(0, 0), Rings.NONE);
        CHECKS.due("states", ring.count(13), 4);
        CHECKS.refused("UNKNOWN ahead of NONE", Rings.UNKNOWN, r -> r.license(6, 1));
    }

    // ---- promise 4

    private static void setRate() {
        CHECKS.promise(4, "machine: a machine");
        CHECKS.isAct("machine 0", 20, r -> r.setRate(0, 21));
        CHECKS.isAct("machine 3", 10, r -> r.setRate(3, 11));
        CHECKS.isAct(MachineEdgesTests::six, "machine 5", 9, r -> r.setRate(5, 11));
        CHECKS.refused("machine -1", Rings.UNKNOWN, r -> r.setRate(-1, 1));
        CHECKS.refused("machine 4", Rings.UNKNOWN, r -> r.setRate(4, 1));
        CHECKS.refused(MachineEdgesTests::six, "machine 6", Rings.UNKNOWN, r -> r.setRate(6, 1));
        CHECKS.refused("the least machine", Rings.UNKNOWN, r -> r.setRate(LEAST, 1));
        CHECKS.refused("the greatest machine", Rings.UNKNOWN, r -> r.setRate(MOST, 1));

        CHECKS.promise(4, "rate: 1 to 99");
        CHECKS.isAct("the rate 1", 20, r -> r.setRate(0, 1));
        CHECKS.isAct("the rate 99", 20, r -> r.setRate(0, 99));
        CHECKS.refused("the rate 0", Rings.BAD_VALUE, r -> r.setRate(0, 0));
        CHECKS.refused("the rate 100", Rings.BAD_VALUE, r -> r.setRate(0, 100));
        CHECKS.refused("the least rate", Rings.BAD_VALUE, r -> r.setRate(0, LEAST));
        CHECKS.refused("the greatest rate", Rings.BAD_VALUE, r -> r.setRate(0, MOST));

        CHECKS.promise(4, "Changes the rate of a machine");
        MachineRing changed = Rings.busy();
        changed.setRate(3, 99);
        CHECKS.dueRow("rates", machine -> changed.machine(machine, 1), 20, 33, 50, 99);
        CHECKS.due("what stands is charged by it", changed.booking(2, 5), 3 * 99);

        CHECKS.promise(4, "Returns the previous one; UNKNOWN; BAD_VALUE");
        MachineRing ring = Rings.fuelled();
        CHECKS.due("setRate(2, 99)", ring.setRate(2, 99), 50);
        CHECKS.due("setRate(2, 1)", ring.setRate(2, 1), 99);
        CHECKS.refused("UNKNOWN ahead of BAD_VALUE", Rings.UNKNOWN, r -> r.setRate(4, 0));

        CHECKS.promise(4, "NONE if it is so already");
        CHECKS.refused("the first rate", Rings.NONE, r -> r.setRate(1, 33));
        CHECKS.due("setRate(2, 1)", ring.setRate(2, 1), Rings.NONE);
    }

    /** A ring of six machines with room in its history. */
    private static MachineRing six() {
        MachineRing ring = Rings.full();
        while (ring.count(13) > 0) {
            ring.undo();
        }
        ring.setRate(5, 9);
        return ring;
    }

    // ---- promise 5

    private static void fill() {
        CHECKS.promise(5, "farmer: 0 to 5");
        CHECKS.isAct("farmer 0", 2, r -> r.fill(0, 0, 1));
        CHECKS.isAct("farmer 5", 2, r -> r.fill(5, 0, 1));
        CHECKS.refused("farmer -1", Rings.UNKNOWN, r -> r.fill(-1, 0, 1));
        CHECKS.refused("farmer 6", Rings.UNKNOWN, r -> r.fill(6, 0, 1));
        CHECKS.refused("the least farmer", Rings.UNKNOWN, r -> r.fill(LEAST, 0, 1));
        CHECKS.refused("the greatest farmer", Rings.UNKNOWN, r -> r.fill(MOST, 0, 1));

        CHECKS.promise(5, "machine: a machine");
        CHECKS.isAct("machine 3", 2, r -> r.fill(0, 3, 1));
        CHECKS.refused("machine -1", Rings.UNKNOWN, r -> r.fill(0, -1, 1));
        CHECKS.refused("machine 4", Rings.UNKNOWN, r -> r.fill(0, 4, 1));
        CHECKS.refused(Rings::full, "machine 6", Rings.UNKNOWN, r -> r.fill(0, 6, 1));
        CHECKS.refused("the least machine", Rings.UNKNOWN, r -> r.fill(0, LEAST, 1));
        CHECKS.refused("the greatest machine", Rings.UNKNOWN, r -> r.fill(0, MOST, 1));

        CHECKS.promise(5, "litres: 1 to 500");
        CHECKS.isAct("1 litre", 2, r -> r.fill(0, 1, 1));
        CHECKS.isAct("500 litres", 1000, r -> r.fill(0, 1, 500));
        CHECKS.refused("0 litres", Rings.BAD_VALUE, r -> r.fill(0, 1, 0));
        CHECKS.refused("501 litres", Rings.BAD_VALUE, r -> r.fill(0, 1, 501));
        CHECKS.refused("-1 litre", Rings.BAD_VALUE, r -> r.fill(0, 1, -1));
        CHECKS.refused("the least litres", Rings.BAD_VALUE, r -> r.fill(0, 1, LEAST));
        CHECKS.refused("the greatest litres", Rings.BAD_VALUE, r -> r.fill(0, 1, MOST));

        CHECKS.terms("For each litre (1 to 500) that a farmer fills into a machine the chest pays 2 coins");
        MachineRing ring = ringOf(0, 1);
        CHECKS.due("for 500", ring.count(7), -1000);
        CHECKS.due("fill(4, 0, 1)", ring.fill(4, 0, 1), 2);
        CHECKS.due("for 501", ring.count(7), -1002);
        CHECKS.due("what fuel cost", ring.count(16), 1002);
        CHECKS.dueRow("litres", farmer -> ring.farmer(farmer, 3), 0, 0, 0, 0, 1, 500);
        CHECKS.dueRow("no account changes", farmer -> ring.farmer(farmer, 0), 0, 0, 0, 0, 0, 0);
        fullTank();

        CHECKS.promise(5, "A farmer fills fuel into a machine");
        MachineRing filled = Rings.fuelled();
        filled.fill(3, 1, 99);
        CHECKS.dueFloat("fuel(0)", filled.fuel(0), 500.0f);
        CHECKS.dueFloat("fuel(1)", filled.fuel(1), 599.0f);
        CHECKS.dueRow("litres", farmer -> filled.farmer(farmer, 3), 0, 0, 0, 99, 0, 1500);

        CHECKS.promise(5, "Returns the coins for it; UNKNOWN (farmer or machine); BAD_VALUE");
        CHECKS.refused("UNKNOWN (farmer) ahead of BAD_VALUE", Rings.UNKNOWN, r -> r.fill(6, 0, 0));
        CHECKS.refused("UNKNOWN (machine) ahead of BAD_VALUE", Rings.UNKNOWN, r -> r.fill(0, 4, 501));
        CHECKS.refused(Rings::full, "UNKNOWN ahead of FULL", Rings.UNKNOWN, r -> r.fill(6, 0, 1));
        CHECKS.refused(Rings::full, "BAD_VALUE ahead of FULL, 0", Rings.BAD_VALUE, r -> r.fill(0, 0, 0));
        CHECKS.refused(Rings::full, "BAD_VALUE ahead of FULL, 501", Rings.BAD_VALUE, r -> r.fill(0, 0, 501));
    }

    private static void fullTank() {
        CHECKS.terms("The fuel of a machine is at most 600.0f");
        MachineRing ring = ringOf(0, 1);
        CHECKS.due("601", ring.fill(0, 0, 101), Rings.FULL);
        CHECKS.due("600", ring.fill(0, 0, 100), 200);
        CHECKS.dueFloat("fuel(0)", ring.fuel(0), 600.0f);
        CHECKS.due("a litre more", ring.fill(0, 0, 1), Rings.FULL);
        CHECKS.dueFloat("fuel(0)", ring.fuel(0), 600.0f);

        CHECKS.promise(5, "FULL if it would have more than 600.0f");
        for (int machine = 0; machine < 6; machine++) {
            int full = machine;
            CHECKS.refused(Rings::full, "machine " + machine, Rings.FULL, r -> r.fill(0, full, 1));
        }
        CHECKS.refused("a litre too much", Rings.FULL, r -> r.fill(0, 0, 486));
        CHECKS.isAct("up to 600", 970, r -> r.fill(0, 0, 485));
        MachineRing quarters = ringOf(2, 1);
        quarters.fill(0, 0, 100);
        quarters.book(0, 0, 1, 1);
        quarters.pass(1);
        CHECKS.dueFloat("fuel(0)", quarters.fuel(0), 579.25f);
        CHECKS.due("600.25", quarters.fill(0, 0, 21), Rings.FULL);
        CHECKS.due("599.25", quarters.fill(0, 0, 20), 40);
        CHECKS.due("600.25", quarters.fill(0, 0, 1), Rings.FULL);
        CHECKS.dueFloat("fuel(0)", quarters.fuel(0), 599.25f);
    }

    // ---- promise 6

    /** Machine 0 broken by hours of the farmers 0, 1, .. (10 to 12 in all: it breaks by the last of them). */
    private static MachineRing brokenBy(int cost, int... hours) {
        MachineRing ring = ringOf(0, 1);
        int sum = 0;
        for (int farmer = 0; farmer < hours.length; farmer++) {
            ring.book(farmer, 0, 1, hours[farmer]);
            sum += hours[farmer];
        }
        ring.set(0, sum);
        ring.set(1, cost);
        ring.pass(1);
        return ring;
    }

    private static void mend() {
        CHECKS.promise(6, "machine: a machine");
        CHECKS.isAct("machine 0", 0, r -> r.mend(0));
        CHECKS.refused("machine -1", Rings.UNKNOWN, r -> r.mend(-1));
        CHECKS.refused("machine 4", Rings.UNKNOWN, r -> r.mend(4));
        CHECKS.refused(Rings::full, "machine 6", Rings.UNKNOWN, r -> r.mend(6));
        CHECKS.refused("the least machine", Rings.UNKNOWN, r -> r.mend(LEAST));
        CHECKS.refused("the greatest machine", Rings.UNKNOWN, r -> r.mend(MOST));

        CHECKS.terms("hours since it was mended, by farmers, and all hours so far; it may be broken");
        CHECKS.promise(6, "Mends a machine");
        MachineRing mended = Rings.busy();
        mended.mend(0);
        CHECKS.dueRow("the machine", what -> mended.machine(0, what), 0, 20, 0, 0, 10, 0,
                Float.floatToIntBits(115.0f), 1);
        CHECKS.dueRow("no other one", what -> mended.machine(2, what), 2, 50, 0, 4, 4, 0,
                Float.floatToIntBits(217.0f), 0);

        CHECKS.promise(6, "NONE if it is not broken");
        CHECKS.refused("machine 3 without hours", Rings.NONE, r -> r.mend(3));
        CHECKS.refused("machine 2 with hours", Rings.NONE, r -> r.mend(2));
        CHECKS.refused(Rings::full, "machine 5", Rings.NONE, r -> r.mend(5));
        MachineRing twice = Rings.busy();
        twice.mend(0);
        CHECKS.due("mended already", twice.mend(0), Rings.NONE);
        CHECKS.due("how often", twice.machine(0, 7), 1);

        CHECKS.terms("To mend a broken machine the chest pays the setting 1 (0 to 9999; 300 at first): the cost");
        costOfMending(0, -1000);
        costOfMending(9999, -10999);
        MachineRing first = ringOf(0, 1);
        first.set(0, 12);
        first.book(0, 0, 1, 12);
        first.pass(1);
        CHECKS.due("mend(0) at first", first.mend(0), 0);
        CHECKS.due("300", first.count(15), 300);
        CHECKS.due("the chest", first.count(7), -1300);

        CHECKS.terms("rounded down (the chest gets nothing by that); what is left over is borne by nobody");
        partsOfMending(0, 0, 0, 0, 0, 6, 6);
        partsOfMending(1, 1, 0, 0, 0, 4, 4, 4);
        partsOfMending(2, 0, 1, 1, 0, 6, 6);
        partsOfMending(3, 1, 1, 1, 0, 6, 6);
        partsOfMending(11, 0, 10, 1, 0, 10, 1);
        partsOfMending(10, 1, 9, 0, 0, 10, 1);
        partsOfMending(12, 1, 10, 1, 0, 10, 1);
        partsOfMending(9999, 0, 9999, 0, 0, 12);
        partsOfMending(9999, 1, 9165, 833, 0, 11, 1);
        partsOfMending(9999, 3, 1666, 1666, 1666, 2, 2, 2, 2, 2, 2);

        CHECKS.promise(6, "Returns what of the cost is left over; UNKNOWN");
        CHECKS.due("nothing", brokenBy(300, 10).mend(0), 0);
        CHECKS.due("five of 5 by six", brokenBy(5, 2, 2, 2, 2, 2, 2).mend(0), 5);
        CHECKS.due("none of 6 by six", brokenBy(6, 2, 2, 2, 2, 2, 2).mend(0), 0);
        CHECKS.due("five of 11 by six", brokenBy(11, 2, 2, 2, 2, 2, 2).mend(0), 5);

        CHECKS.terms("Its hours since it was mended are 0 then, for all");
        MachineRing ring = brokenBy(60, 2, 2, 2, 2, 2, 2);
        ring.mend(0);
        CHECKS.dueRow("hours", farmer -> ring.hours(0, farmer), 0, 0, 0, 0, 0, 0);
        CHECKS.dueRow("the machine", what -> ring.machine(0, what), 0, 1, 0, 0, 12, 0,
                Float.floatToIntBits(398.0f), 1);
        CHECKS.dueRow("hours so far stay", farmer -> ring.farmer(farmer, 2), 2, 2, 2, 2, 2, 2);
        ring.book(3, 0, 1, 12);
        ring.pass(1);
        ring.mend(0);
        CHECKS.dueRow("only hours since then bear", farmer -> ring.farmer(farmer, 6), 10, 10, 10, 70, 10, 10);
    }

    private static void costOfMending(int cost, int chest) {
        MachineRing ring = brokenBy(cost, 12);
        CHECKS.due("mend(0)", ring.mend(0), 0);
        CHECKS.due("the chest", ring.count(7), chest);
        CHECKS.due("what mending cost", ring.count(15), cost);
        CHECKS.due("the part of farmer 0", ring.farmer(0, 6), cost);
    }

    /** The first three farmers' parts of a cost that is shared by hours. */
    private static void partsOfMending(int cost, int left, int part0, int part1, int part2, int... hours) {
        MachineRing ring = brokenBy(cost, hours);
        int[] accounts = {ring.farmer(0, 0), ring.farmer(1, 0), ring.farmer(2, 0)};
        int chest = ring.count(7);
        CHECKS.due("left over of " + cost, ring.mend(0), left);
        CHECKS.dueRow("parts of " + cost, farmer -> ring.farmer(farmer, 6), part0, part1, part2);
        CHECKS.dueRow("accounts less by them", farmer -> accounts[farmer] - ring.farmer(farmer, 0),
                part0, part1, part2);
        CHECKS.due("the chest", ring.count(7), chest - cost);
    }

    // ---- promise 7

    private static void pay() {
        CHECKS.promise(7, "farmer: 0 to 5");
        CHECKS.isAct("farmer 0", -199, r -> r.pay(0, 1));
        CHECKS.isAct("farmer 5", 1, r -> r.pay(5, 1));
        CHECKS.refused("farmer -1", Rings.UNKNOWN, r -> r.pay(-1, 1));
        CHECKS.refused("farmer 6", Rings.UNKNOWN, r -> r.pay(6, 1));
        CHECKS.refused("the least farmer", Rings.UNKNOWN, r -> r.pay(LEAST, 1));
        CHECKS.refused("the greatest farmer", Rings.UNKNOWN, r -> r.pay(MOST, 1));

        CHECKS.promise(7, "coins: 1 to 9999");
        CHECKS.isAct("1 coin", 1, r -> r.pay(5, 1));
        CHECKS.isAct("9999 coins", 9999, r -> r.pay(5, 9999));
        CHECKS.refused("0 coins", Rings.BAD_VALUE, r -> r.pay(5, 0));
        CHECKS.refused("-1 coin", Rings.BAD_VALUE, r -> r.pay(5, -1));
        CHECKS.refused("10000 coins", Rings.BAD_VALUE, r -> r.pay(5, 10000));
        CHECKS.refused("the least coins", Rings.BAD_VALUE, r -> r.pay(5, LEAST));
        CHECKS.refused("the greatest coins", Rings.BAD_VALUE, r -> r.pay(5, MOST));

        CHECKS.promise(7, "A farmer pays coins: they come into the chest, and the account becomes more by them");
        MachineRing ring = new MachineRing();
        ring.pay(2, 9999);
        ring.pay(3, 1);
        CHECKS.due("the chest", ring.count(7), 10000);
        CHECKS.due("paid so far", ring.count(17), 10000);
        CHECKS.dueRow("accounts", farmer -> ring.farmer(farmer, 0), 0, 0, 9999, 1, 0, 0);

        CHECKS.promise(7, "Returns the account then; UNKNOWN; BAD_VALUE");
        CHECKS.due("of farmer 2", ring.pay(2, 1), 10000);
        CHECKS.due("of farmer 0", ring.pay(0, 5), 5);
        CHECKS.refused("UNKNOWN ahead of BAD_VALUE", Rings.UNKNOWN, r -> r.pay(6, 0));
        CHECKS.refused("UNKNOWN ahead of BAD_VALUE", Rings.UNKNOWN, r -> r.pay(-1, 10000));
    }
}
