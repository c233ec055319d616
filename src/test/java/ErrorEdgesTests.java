import java.util.function.Supplier;

/** The edges of the terms on errors: a test a sentence. Each promise's own errors are tested where the promise is. */
public final class ErrorEdgesTests {
    private static final Checks CHECKS = new Checks();

    public static void main(String[] args) {
        constants();
        meanings();
        farBelowZero();
        changesNothing();
        orderOfMachines();
        orderOfBookings();
        orderOfBookAll();
        orderOfWhatIsTold();
        noneIsNoError();
        CHECKS.end();
    }

    private static void constants() {
        CHECKS.terms("Errors are reported by the constants below");
        CHECKS.terms("UNKNOWN = -100000001");
        CHECKS.due("UNKNOWN", MachineRing.UNKNOWN, -100000001);
        CHECKS.terms("BAD_VALUE = -100000002");
        CHECKS.due("BAD_VALUE", MachineRing.BAD_VALUE, -100000002);
        CHECKS.terms("FULL = -100000003");
        CHECKS.due("FULL", MachineRing.FULL, -100000003);
        CHECKS.terms("NOT_POSSIBLE = -100000004");
        CHECKS.due("NOT_POSSIBLE", MachineRing.NOT_POSSIBLE, -100000004);
        CHECKS.terms("NONE = -100000005");
        CHECKS.due("NONE", MachineRing.NONE, -100000005);
    }

    private static void meanings() {
        CHECKS.terms("There is no such farmer, machine, booking or shed");
        CHECKS.refused("no such farmer", -100000001, r -> r.pay(6, 1));
        CHECKS.refused("no such machine", -100000001, r -> r.setRate(4, 1));
        CHECKS.refused("no such booking", -100000001, r -> r.takeBack(5));
        CHECKS.refused("no such shed", -100000001, r -> r.buy(0, 3, 1));
        CHECKS.terms("Another argument is out of range");
        CHECKS.refused("coins", -100000002, r -> r.pay(0, 0));
        CHECKS.terms("There is no more room");
        CHECKS.refused("in the shed", -100000003, r -> r.buy(0, 0, 1));
        CHECKS.refused("in the tank", -100000003, r -> r.fill(0, 0, 500));
        CHECKS.refused(Rings::full, "among the bookings", -100000003, r -> r.book(0, 0, 9, 1));
        CHECKS.refused(Rings::full, "in the text", -100000003, r -> r.type('0'));
        CHECKS.terms("This is not possible");
        CHECKS.refused("a shed of another kind", -100000004, r -> r.buy(0, 1, 1));
        CHECKS.refused("no hours left", -100000004, r -> r.book(0, 2, 3, 1));
        CHECKS.terms("There is no such thing; not an error");
        CHECKS.refused("nothing to change", -100000005, r -> r.license(5, 1));
        CHECKS.refused("no hours", -100000005, r -> r.most(1));
        CHECKS.refused(MachineRing::new, "no state", -100000005, r -> r.undo());
        CHECKS.refused(MachineRing::new, "no snapshot", -100000005, r -> r.restore());
    }

    /** The deepest debts that 512 calls come to are far above the constants; an account of -1 is no error. */
    private static void farBelowZero() {
        CHECKS.terms("They are far below 0, as accounts may be below 0");
        MachineRing ring = new MachineRing();
        ring.buy(0, 0, 1);
        ring.fill(0, 0, 100);
        ring.book(0, 0, 1, 2);
        ring.pass(1);
        CHECKS.due("pay() answers an account below 0", ring.pay(0, 1), -1);
        CHECKS.due("farmer(0, 0)", ring.farmer(0, 0), -1);
        CHECKS.due("count(7)", ring.count(7), -199);
        MachineRing debts = new MachineRing();
        debts.buy(0, 0, 99);
        debts.set(0, 10);
        debts.set(1, 9999);
        debts.license(0, 0);
        Rings.passTo(debts, 90);
        for (int n = 1; n <= 85; n++) {
            debts.fill(0, 0, 102);
            debts.book(0, 0, 1, 12);
            debts.pass(1);
            debts.mend(0);
        }
        CHECKS.due("count(0)", debts.count(0), 175);
        CHECKS.due("the account", debts.farmer(0, 0), -85 * (1782 + 72 + 9999));
        CHECKS.due("the chest", debts.count(7), -85 * (204 + 9999));
    }

    /** A refused act leaves the history as it is, be it empty, with room or full. */
    private static void changesNothing() {
        CHECKS.terms("A call that returns an error or NONE changes nothing");
        for (Act act : Act.refused()) {
            refused(Rings::busy, act, "");
            refused(Rings::undone, act, " with an empty history");
            refused(Rings::busyWithFourStates, act, " with a full history");
            refused(Rings::full, act, " of a full ring");
            refused(MachineRing::new, act, " of a new ring");
        }
    }

    private static void refused(Supplier<MachineRing> maker, Act act, String where) {
        int answer = act.done().applyAsInt(maker.get());
        CHECKS.holds(act.call() + where + " is refused", answer <= Rings.UNKNOWN && answer >= Rings.NONE);
        CHECKS.refused(maker, act.call() + where, answer, act.done());
    }

    // ---- where all errors apply at once, and then each of them is mended in its turn

    private static void orderOfMachines() {
        CHECKS.terms("Where several errors can apply, the order of the @return line is the order of the checks");
        CHECKS.refused("buy(3, 3, 0)", Rings.UNKNOWN, r -> r.buy(3, 3, 0));
        CHECKS.refused("buy(3, 0, 0)", Rings.BAD_VALUE, r -> r.buy(3, 0, 0));
        CHECKS.refused("buy(1, 0, 0)", Rings.BAD_VALUE, r -> r.buy(1, 0, 0));
        CHECKS.refused("buy(1, 0, 1)", Rings.FULL, r -> r.buy(1, 0, 1));
        CHECKS.refused("buy(1, 2, 1)", Rings.NOT_POSSIBLE, r -> r.buy(1, 2, 1));
        CHECKS.isAct("buy(1, 1, 1)", 4, r -> r.buy(1, 1, 1));
        CHECKS.refused("license(6, 8)", Rings.UNKNOWN, r -> r.license(6, 8));
        CHECKS.refused("license(0, 8)", Rings.BAD_VALUE, r -> r.license(0, 8));
        CHECKS.refused("license(0, 1)", Rings.NONE, r -> r.license(0, 1));
        CHECKS.isAct("license(0, 0)", 1, r -> r.license(0, 0));
        CHECKS.refused("setRate(4, 100)", Rings.UNKNOWN, r -> r.setRate(4, 100));
        CHECKS.refused("setRate(0, 100)", Rings.BAD_VALUE, r -> r.setRate(0, 100));
        CHECKS.refused("setRate(0, 20)", Rings.NONE, r -> r.setRate(0, 20));
        CHECKS.isAct("setRate(0, 99)", 20, r -> r.setRate(0, 99));
        CHECKS.refused(Rings::full, "fill(6, 6, 501)", Rings.UNKNOWN, r -> r.fill(6, 6, 501));
        CHECKS.refused(Rings::full, "fill(0, 6, 501)", Rings.UNKNOWN, r -> r.fill(0, 6, 501));
        CHECKS.refused(Rings::full, "fill(6, 0, 501)", Rings.UNKNOWN, r -> r.fill(6, 0, 501));
        CHECKS.refused(Rings::full, "fill(0, 0, 501)", Rings.BAD_VALUE, r -> r.fill(0, 0, 501));
        CHECKS.refused(Rings::full, "fill(0, 0, 500)", Rings.FULL, r -> r.fill(0, 0, 500));
        CHECKS.refused(Rings::full, "fill(0, 0, 1)", Rings.FULL, r -> r.fill(0, 0, 1));
        CHECKS.refused("pay(6, 10000)", Rings.UNKNOWN, r -> r.pay(6, 10000));
        CHECKS.refused("pay(5, 10000)", Rings.BAD_VALUE, r -> r.pay(5, 10000));
        CHECKS.isAct("pay(5, 9999)", 9999, r -> r.pay(5, 9999));
    }

    private static void orderOfBookings() {
        CHECKS.terms("the order of the @return line is the order of the checks");
        CHECKS.refused(Rings::full, "book(6, 6, 0, 13)", Rings.UNKNOWN, r -> r.book(6, 6, 0, 13));
        CHECKS.refused(Rings::full, "book(5, 6, 0, 13)", Rings.UNKNOWN, r -> r.book(5, 6, 0, 13));
        CHECKS.refused(Rings::full, "book(6, 5, 0, 13)", Rings.UNKNOWN, r -> r.book(6, 5, 0, 13));
        CHECKS.refused(Rings::full, "book(5, 5, 0, 13)", Rings.BAD_VALUE, r -> r.book(5, 5, 0, 13));
        CHECKS.refused(Rings::full, "book(5, 5, 1, 13)", Rings.BAD_VALUE, r -> r.book(5, 5, 1, 13));
        CHECKS.refused(Rings::full, "book(5, 5, 0, 12)", Rings.BAD_VALUE, r -> r.book(5, 5, 0, 12));
        CHECKS.refused(Rings::full, "book(5, 5, 1, 12)", Rings.FULL, r -> r.book(5, 5, 1, 12));
        MachineRing ring = Rings.full();
        CHECKS.due("takeBack(30)", ring.takeBack(30), 29);
        CHECKS.due("book(5, 5, 1, 12)", ring.book(5, 5, 1, 12), Rings.NOT_POSSIBLE);
        CHECKS.due("book(5, 5, 6, 12)", ring.book(5, 5, 6, 12), 31);
    }

    private static MachineRing fullWith(String text) {
        MachineRing ring = Rings.full();
        Rings.write(ring, text);
        return ring;
    }

    private static void orderOfBookAll() {
        CHECKS.terms("Where several errors can apply");
        MachineRing ring = fullWith("0m6+1h");
        ring.setRate(0, 50);
        CHECKS.due("too early an end", ring.bookAll(), Rings.TEXT_FAULT - 2);
        Rings.write(ring, "5m5+1h");
        CHECKS.due("too early an end", ring.bookAll(), Rings.TEXT_FAULT - 6);
        Rings.write(ring, "5m5+1h1");
        CHECKS.due("30 stand", ring.bookAll(), Rings.FULL);
        ring.takeBack(30);
        CHECKS.due("no hours left", ring.bookAll(), Rings.NOT_POSSIBLE);
        Rings.write(ring, "5m5+5h12");
        CHECKS.due("in the place of the one that was taken back", ring.bookAll(), 1);
        CHECKS.due("30 stand", ring.count(3), 30);
    }

    private static void orderOfWhatIsTold() {
        CHECKS.terms("Where several errors can apply");
        CHECKS.refused("farmer(6, 7)", Rings.UNKNOWN, r -> r.farmer(6, 7));
        CHECKS.refused("farmer(5, 7)", Rings.BAD_VALUE, r -> r.farmer(5, 7));
        CHECKS.refused("machine(4, 8)", Rings.UNKNOWN, r -> r.machine(4, 8));
        CHECKS.refused("machine(3, 8)", Rings.BAD_VALUE, r -> r.machine(3, 8));
        CHECKS.refused("booking(5, 6)", Rings.UNKNOWN, r -> r.booking(5, 6));
        CHECKS.refused("booking(4, 6)", Rings.BAD_VALUE, r -> r.booking(4, 6));
        CHECKS.refused("booked(4, 100)", Rings.UNKNOWN, r -> r.booked(4, 100));
        CHECKS.refused("booked(3, 100)", Rings.BAD_VALUE, r -> r.booked(3, 100));
    }

    private static void noneIsNoError() {
        CHECKS.terms("NONE is no error; it is returned only if no error applies");
        CHECKS.due("setRate() to its own, of no machine", Rings.busy().setRate(4, 20), Rings.UNKNOWN);
        CHECKS.due("license() to its own, of no farmer", Rings.busy().license(6, 1), Rings.UNKNOWN);
        CHECKS.due("mend() of no machine", Rings.busy().mend(4), Rings.UNKNOWN);
        CHECKS.due("most() of no machine", Rings.busy().most(4), Rings.UNKNOWN);
        CHECKS.due("lasts() of no machine", Rings.busy().lasts(4), Rings.UNKNOWN);
        CHECKS.due("set() of no setting", Rings.busy().set(2, 300), Rings.BAD_VALUE);
    }
}
