/** Promises 16 to 18: undo and the snapshot. That each act is undone is tested where the act is. */
public final class HistoryTests {
    private static final Checks CHECKS = new Checks();

    public static void main(String[] args) {
        undo();
        undoOfWhatIsNoAct();
        undoLeavesTheSnapshot();
        keep();
        restore();
        restoreOfOtherMachines();
        CHECKS.end();
    }

    private static void undo() {
        CHECKS.begin("promise 16, undo");
        MachineRing ring = new MachineRing();
        CHECKS.due("undo() of nothing", ring.undo(), Rings.NONE);
        for (int n = 1; n <= 6; n++) {
            ring.pay(0, n);
            CHECKS.due("count(13)", ring.count(13), Math.min(n, 4));
        }
        int[] accounts = {15, 10, 6, 3};
        for (int n = 0; n < 4; n++) {
            CHECKS.due("undo()", ring.undo(), 3 - n);
            CHECKS.due("farmer(0, 0)", ring.farmer(0, 0), accounts[n]);
            CHECKS.due("count(7)", ring.count(7), accounts[n]);
        }
        CHECKS.due("undo() of nothing", ring.undo(), Rings.NONE);
        CHECKS.due("farmer(0, 0)", ring.farmer(0, 0), 3);
        ring.pay(0, 5);
        ring.pay(0, 6);
        CHECKS.due("undo()", ring.undo(), 1);
        ring.pay(1, 7);
        CHECKS.due("undo()", ring.undo(), 1);
        CHECKS.due("farmer(0, 0)", ring.farmer(0, 0), 8);
        CHECKS.due("farmer(1, 0)", ring.farmer(1, 0), 0);
        CHECKS.due("undo()", ring.undo(), 0);
        CHECKS.due("farmer(0, 0)", ring.farmer(0, 0), 3);
        numbersComeBack();
    }

    /** The count of bookings is of the state, as everything is but the text, the history and the snapshot. */
    private static void numbersComeBack() {
        MachineRing ring = Rings.fuelled();
        CHECKS.due("book()", ring.book(0, 0, 1, 1), 0);
        CHECKS.due("undo()", ring.undo(), 3);
        CHECKS.due("count(4)", ring.count(4), 0);
        CHECKS.due("book()", ring.book(1, 0, 1, 1), 0);
        CHECKS.due("booking(0, 0)", ring.booking(0, 0), 1);
    }

    private static void undoOfWhatIsNoAct() {
        CHECKS.begin("promise 16, what is no act");
        MachineRing ring = Rings.busy();
        ring.keep();
        ring.type(',');
        ring.clearText();
        ring.bookAll();
        ring.pay(0, 0);
        ring.license(0, 1);
        ring.pass(61);
        ring.mend(1);
        ring.takeBack(77);
        ring.wet(1);
        CHECKS.due("count(13)", ring.count(13), 3);
        ring.undo();
        CHECKS.due("count(13)", ring.count(13), 2);
    }

    private static void undoLeavesTheSnapshot() {
        CHECKS.begin("promise 16, the snapshot stays");
        MachineRing ring = new MachineRing();
        ring.pay(0, 5);
        ring.keep();
        ring.undo();
        CHECKS.due("farmer(0, 0)", ring.farmer(0, 0), 0);
        CHECKS.due("restore()", ring.restore(), 0);
        CHECKS.due("farmer(0, 0)", ring.farmer(0, 0), 5);
        CHECKS.due("count(13)", ring.count(13), 1);
    }

    private static void keep() {
        CHECKS.begin("promise 17, keep");
        MachineRing ring = new MachineRing();
        CHECKS.due("keep()", ring.keep(), 0);
        CHECKS.due("no act", ring.count(13), 0);
        ring.pass(60);
        ring.pay(2, 9);
        CHECKS.due("keep()", ring.keep(), 60);
        CHECKS.due("count(13)", ring.count(13), 2);
        ring.pass(1);
        CHECKS.due("restore() of the later one", ring.restore(), 60);
        CHECKS.due("farmer(2, 0)", ring.farmer(2, 0), 9);
        CHECKS.refused(HistoryTests::busyAndKept, "keep() changes nothing else", 1, r -> r.keep());
    }

    private static MachineRing busyAndKept() {
        MachineRing ring = Rings.busy();
        ring.keep();
        return ring;
    }

    private static void restore() {
        CHECKS.begin("promise 18, restore");
        CHECKS.refused(MachineRing::new, "restore() of none", Rings.NONE, r -> r.restore());
        CHECKS.isAct("restore()", 1, r -> r.restore());
        MachineRing ring = busyAndKept();
        String before = Rings.picture(ring);
        ring.undo();
        ring.undo();
        ring.undo();
        CHECKS.due("restore()", ring.restore(), 1);
        ring.undo();
        ring.pass(3);
        ring.mend(0);
        CHECKS.due("restore() again", ring.restore(), 1);
        CHECKS.due("states", ring.count(13), 3);
        CHECKS.holds("all of the state is back", before.equals(Rings.picture(ring)));
        CHECKS.due("undo()", ring.undo(), 2);
        CHECKS.due("machine(0, 7)", ring.machine(0, 7), 1);
        CHECKS.due("count(0)", ring.count(0), 4);
    }

    private static void restoreOfOtherMachines() {
        CHECKS.begin("promise 18, other machines under the same numbers");
        MachineRing ring = new MachineRing();
        ring.buy(0, 0, 1);
        ring.buy(0, 0, 2);
        ring.fill(0, 1, 3);
        ring.keep();
        ring.undo();
        ring.undo();
        CHECKS.due("buy(1, 1, 5)", ring.buy(1, 1, 5), 1);
        CHECKS.due("buy(2, 2, 6)", ring.buy(2, 2, 6), 2);
        ring.restore();
        CHECKS.dueRow("machine 1", what -> ring.machine(1, what),
                0, 2, 0, 0, 0, 1, Float.floatToIntBits(3.0f), 0);
        CHECKS.due("machine(2, 0)", ring.machine(2, 0), Rings.UNKNOWN);
        ring.undo();
        CHECKS.dueRow("machine 1", what -> ring.machine(1, what), 1, 5, 0, 0, 0, 0, 0, 0);
        CHECKS.dueRow("machine 2", what -> ring.machine(2, what), 2, 6, 0, 0, 0, 0, 0, 0);
    }
}
