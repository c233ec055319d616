import java.util.Set;
import java.util.TreeSet;

/** The edges of promises 16 to 18 and of the terms on the history: a test a sentence. */
public final class HistoryEdgesTests {
    private static final Checks CHECKS = new Checks();

    public static void main(String[] args) {
        fourStates();
        theOldestIsDropped();
        actsRecord();
        actsAtAFullHistory();
        otherCallsDoNot();
        stateIsEverythingBut();
        emptyHistory();
        undo();
        emptySnapshot();
        keep();
        restore();
        CHECKS.end();
    }

    // ---- the terms

    private static void fourStates() {
        CHECKS.terms("A history of at most 4 states is kept");
        MachineRing ring = new MachineRing();
        CHECKS.due("none at first", ring.count(13), 0);
        for (int n = 1; n <= 10; n++) {
            ring.pay(0, n);
            CHECKS.due("states behind " + n + " acts", ring.count(13), n < 4 ? n : 4);
        }
        for (int left = 3; left >= 0; left--) {
            CHECKS.due("undo()", ring.undo(), left);
            CHECKS.due("states", ring.count(13), left);
        }
        CHECKS.due("a fifth undo()", ring.undo(), Rings.NONE);
        CHECKS.due("states", ring.count(13), 0);
    }

    /** Behind n acts the account is 1 + 2 + .. + n; four of them can be undone. */
    private static void theOldestIsDropped() {
        CHECKS.terms("when one more is recorded, the oldest one is dropped");
        for (int acts = 1; acts <= 12; acts++) {
            MachineRing ring = new MachineRing();
            for (int n = 1; n <= acts; n++) {
                ring.pay(0, n);
            }
            for (int n = acts - 1; n >= Math.max(0, acts - 4); n--) {
                ring.undo();
                CHECKS.due("undone to " + n + " of " + acts, ring.farmer(0, 0), n * (n + 1) / 2);
            }
            CHECKS.due("and no farther", ring.undo(), Rings.NONE);
            int left = Math.max(0, acts - 4);
            CHECKS.due("the account stays", ring.farmer(0, 0), left * (left + 1) / 2);
        }
    }

    private static void actsRecord() {
        CHECKS.terms("Each call of a method that is described as an act, and returns no error and not NONE, records the state");
        Set<Integer> promises = new TreeSet<>();
        for (Act act : Act.all()) {
            int answer = act.done().applyAsInt(Rings.busy());
            CHECKS.holds(act.call() + " succeeds", answer > -1000000);
            CHECKS.isAct(act.call(), answer, act.done());
            promises.add(act.promise());
        }
        Document document = new Document();
        for (int promise = 1; promise <= Document.PROMISES; promise++) {
            CHECKS.holds("promise " + promise + " is among the acts or is none", promises.contains(promise)
                    == (document.says(promise, "This is an act") || document.says(promise, "This is one act")));
        }
    }

    /** The ring with its oldest state dropped, by which the others are compared one by one. */
    private static void actsAtAFullHistory() {
        CHECKS.terms("when one more is recorded, the oldest one is dropped; undo() removes and restores the latest one");
        for (Act act : Act.all()) {
            for (int undone = 1; undone <= 4; undone++) {
                MachineRing acted = Rings.busyWithFourStates();
                act.done().applyAsInt(acted);
                CHECKS.due("states behind " + act.call(), acted.count(13), 4);
                MachineRing before = Rings.busyWithFourStates();
                for (int n = 0; n < undone; n++) {
                    CHECKS.due("undo() behind " + act.call(), acted.undo(), 3 - n);
                    if (n > 0) {
                        before.undo();
                    }
                }
                acted.clearText();
                before.clearText();
                CHECKS.holds(act.call() + " and " + undone + " undone",
                        stateOf(acted).equals(stateOf(before)));
            }
        }
    }

    /** The picture without the number of states, which is count(13). */
    private static String stateOf(MachineRing ring) {
        String picture = Rings.picture(ring);
        String[] told = picture.split(" ");
        told[13] = "";
        return String.join(" ", told);
    }

    private static void otherCallsDoNot() {
        CHECKS.terms("Each call of a method that is described as an act");
        MachineRing ring = Rings.busy();
        int states = ring.count(13);
        ring.keep();
        ring.type('x');
        ring.clearText();
        ring.farmer(0, 0);
        ring.machine(0, 0);
        ring.fuel(0);
        ring.hours(0, 0);
        ring.booking(2, 0);
        ring.booked(0, 1);
        ring.wet(0);
        ring.most(0);
        ring.lasts(0);
        ring.count(0);
        CHECKS.due("states", ring.count(13), states);
        CHECKS.due("undo() itself records none", ring.undo(), states - 1);
        CHECKS.due("states", ring.count(13), states - 1);
    }

    private static void stateIsEverythingBut() {
        CHECKS.terms("A state is everything but the text, the history and the snapshot");
        MachineRing ring = Rings.busy("12");
        ring.pay(0, 5);
        ring.type('3');
        CHECKS.due("undo()", ring.undo(), 3);
        CHECKS.due("the text stays", ring.count(14), 3);
        ring.clearText();
        CHECKS.due("undo()", ring.undo(), 2);
        CHECKS.due("the text stays", ring.count(14), 0);
        ring.pay(0, 7);
        ring.keep();
        int account = ring.farmer(0, 0);
        CHECKS.due("undo()", ring.undo(), 2);
        CHECKS.due("restore() of what was kept", ring.restore(), 1);
        CHECKS.due("the account that was kept", ring.farmer(0, 0), account);
        CHECKS.due("the history stays and grows", ring.count(13), 3);
        Rings.write(ring, "1234");
        ring.restore();
        CHECKS.due("the text stays", ring.count(14), 4);
        everythingComesBack();
        otherMachinesComeBack();
    }

    /** All that acts change at once, in one long row of them, comes back by restore() and by undo(). */
    private static void everythingComesBack() {
        MachineRing ring = Rings.busy();
        ring.keep();
        String before = stateOf(ring);
        for (Act act : Act.all()) {
            if (!act.call().equals("restore()")) {
                act.done().applyAsInt(ring);
            }
        }
        ring.pass(60);
        String then = stateOf(ring);
        CHECKS.holds("much has changed", !then.equals(before));
        ring.restore();
        CHECKS.holds("restore() brings all back", stateOf(ring).equals(before));
        MachineRing undone = Rings.busy();
        undone.keep();
        for (Act act : Act.all()) {
            if (!act.call().equals("restore()")) {
                act.done().applyAsInt(undone);
            }
        }
        undone.pass(60);
        undone.restore();
        undone.undo();
        CHECKS.holds("undo() of restore() brings all back", stateOf(undone).equals(then));
    }

    /** A machine that is gone comes back as it was, although another one bears its number since then. */
    private static void otherMachinesComeBack() {
        MachineRing ring = new MachineRing();
        ring.buy(0, 0, 1);
        ring.buy(0, 0, 2);
        ring.keep();
        ring.undo();
        CHECKS.due("buy(2, 2, 3)", ring.buy(2, 2, 3), 1);
        CHECKS.dueRow("machine 1", what -> ring.machine(1, what), 2, 3, 0, 0, 0, 0, 0, 0);
        ring.restore();
        CHECKS.dueRow("machine 1, restored", what -> ring.machine(1, what), 0, 2, 0, 0, 0, 1, 0, 0);
        ring.undo();
        CHECKS.dueRow("machine 1, undone", what -> ring.machine(1, what), 2, 3, 0, 0, 0, 0, 0, 0);
    }

    // ---- promise 16

    private static void emptyHistory() {
        CHECKS.promise(16, "NONE if the history is empty");
        CHECKS.refused(MachineRing::new, "at first", Rings.NONE, r -> r.undo());
        CHECKS.refused(Rings::undone, "when all is undone", Rings.NONE, r -> r.undo());
        MachineRing ring = Rings.undone();
        CHECKS.due("again", ring.undo(), Rings.NONE);
        ring.pay(0, 1);
        CHECKS.due("one behind that", ring.undo(), 0);
        CHECKS.due("none behind that", ring.undo(), Rings.NONE);
        MachineRing refused = new MachineRing();
        refused.pay(0, 0);
        refused.license(0, 1);
        refused.restore();
        CHECKS.due("behind refused acts alone", refused.undo(), Rings.NONE);
    }

    private static void undo() {
        CHECKS.promise(16, "Returns the number of states that are left");
        MachineRing ring = new MachineRing();
        ring.pay(0, 1);
        CHECKS.due("the only one", ring.undo(), 0);
        for (int n = 0; n < 5; n++) {
            ring.pay(0, 1);
        }
        CHECKS.due("one of four", ring.undo(), 3);
        ring.pay(0, 1);
        CHECKS.due("the act in its place", ring.undo(), 3);
        CHECKS.due("two of four", ring.undo(), 2);
        CHECKS.due("three of four", ring.undo(), 1);
        CHECKS.due("four of four", ring.undo(), 0);
        CHECKS.due("the fifth is not kept", ring.farmer(0, 0), 1);

        CHECKS.promise(16, "Removes and restores the latest state of the history");
        MachineRing removed = Rings.fuelled();
        removed.pay(0, 10);
        removed.pay(0, 20);
        removed.undo();
        removed.pay(0, 30);
        removed.undo();
        CHECKS.due("10", removed.farmer(0, 0), 10);
        removed.undo();
        CHECKS.due("nothing", removed.farmer(0, 0), 0);
    }

    // ---- promises 17 and 18

    private static void emptySnapshot() {
        CHECKS.terms("There is one snapshot, empty at first");
        CHECKS.refused(MachineRing::new, "restore() of a new ring", Rings.NONE, r -> r.restore());
        CHECKS.refused(Rings::fuelled, "restore() of a ring that kept none", Rings.NONE, r -> r.restore());

        CHECKS.promise(18, "NONE if there is no snapshot");
        MachineRing ring = new MachineRing();
        ring.pay(0, 1);
        ring.undo();
        CHECKS.due("no state of the history is one", ring.restore(), Rings.NONE);
        CHECKS.due("states", ring.count(13), 0);
        ring.keep();
        CHECKS.due("that of an empty ring is one", ring.restore(), 0);
        CHECKS.due("states", ring.count(13), 1);
        ring.undo();
        CHECKS.due("undo() leaves it", ring.restore(), 0);
    }

    private static void keep() {
        CHECKS.promise(17, "Takes a snapshot of the state, in place of the one that was");
        MachineRing ring = new MachineRing();
        ring.keep();
        ring.pay(0, 5);
        ring.keep();
        ring.pay(0, 6);
        ring.restore();
        CHECKS.due("the later one", ring.farmer(0, 0), 5);
        ring.pay(0, 7);
        ring.keep();
        ring.restore();
        CHECKS.due("the latest one", ring.farmer(0, 0), 12);

        CHECKS.promise(17, "Returns the day of now");
        CHECKS.due("day 0", ring.keep(), 0);
        ring.pass(1);
        CHECKS.due("day 1", ring.keep(), 1);
        Rings.passTo(ring, 360);
        CHECKS.due("day 360, the year's first", ring.keep(), 360);
        CHECKS.due("no act", ring.count(13), 4);
        CHECKS.refused(HistoryEdgesTests::busyAndKept, "again it changes nothing", 1, r -> r.keep());
    }

    private static MachineRing busyAndKept() {
        MachineRing ring = Rings.busy();
        ring.keep();
        return ring;
    }

    private static void restore() {
        CHECKS.promise(18, "Restores the state of the snapshot, which stays");
        MachineRing ring = Rings.busy();
        ring.keep();
        String kept = stateOf(ring);
        for (int n = 0; n < 2; n++) {
            ring.pass(20);
            ring.restore();
        }
        CHECKS.holds("twice", stateOf(ring).equals(kept));
        MachineRing unchanged = busyAndKept();
        CHECKS.isAct(HistoryEdgesTests::busyAndKept, "of the state of now: an act all the same", 1, r -> r.restore());
        for (int n = 0; n < 6; n++) {
            CHECKS.due("restore()", unchanged.restore(), 1);
        }
        CHECKS.due("states", unchanged.count(13), 4);

        CHECKS.promise(18, "Returns the day of now then");
        MachineRing days = new MachineRing();
        days.pass(60);
        days.keep();
        days.pass(30);
        CHECKS.due("an earlier day", days.restore(), 60);
        CHECKS.due("count(0)", days.count(0), 60);
        days.undo();
        CHECKS.due("undone", days.count(0), 90);
        days.undo();
        days.undo();
        CHECKS.due("day 0", days.count(0), 0);
        CHECKS.due("a later day", days.restore(), 60);
    }
}
