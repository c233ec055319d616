/** Promises 1 to 7: a new object, machines, farmers. */
public final class MachinesTests {
    private static final Checks CHECKS = new Checks();

    public static void main(String[] args) {
        newObject();
        constants();
        buy();
        buyBehindRestore();
        license();
        setRate();
        fill();
        mend();
        mendAtTheDearest();
        pay();
        CHECKS.end();
    }

    private static void newObject() {
        CHECKS.begin("promise 1, a new object");
        MachineRing ring = new MachineRing();
        CHECKS.dueRow("count", ring::count, 0, 0, 0, 0, 0, 0, 0, 0, 0, 40, 300, 0, 0, 0, 0, 0, 0, 0, Rings.BAD_VALUE);
        for (int farmer = 0; farmer < 6; farmer++) {
            int one = farmer;
            CHECKS.dueRow("farmer " + one, what -> ring.farmer(one, what), 0, 1, 0, 0, 0, 0, 0, Rings.BAD_VALUE);
        }
        CHECKS.due("machine(0, 0)", ring.machine(0, 0), Rings.UNKNOWN);
        CHECKS.due("booking(0, 0)", ring.booking(0, 0), Rings.UNKNOWN);
        CHECKS.due("bookAll()", ring.bookAll(), Rings.TEXT_FAULT);
        CHECKS.due("undo()", ring.undo(), Rings.NONE);
        CHECKS.due("restore()", ring.restore(), Rings.NONE);
        MachineRing other = new MachineRing();
        other.buy(0, 0, 1);
        other.type('0');
        other.keep();
        CHECKS.due("count(2) of another object", ring.count(2), 0);
        CHECKS.due("count(14) of another object", ring.count(14), 0);
        CHECKS.due("restore() of another object", ring.restore(), Rings.NONE);
    }

    private static void constants() {
        CHECKS.begin("the constants");
        CHECKS.due("UNKNOWN", MachineRing.UNKNOWN, Rings.UNKNOWN);
        CHECKS.due("BAD_VALUE", MachineRing.BAD_VALUE, Rings.BAD_VALUE);
        CHECKS.due("FULL", MachineRing.FULL, Rings.FULL);
        CHECKS.due("NOT_POSSIBLE", MachineRing.NOT_POSSIBLE, Rings.NOT_POSSIBLE);
        CHECKS.due("NONE", MachineRing.NONE, Rings.NONE);
    }

    private static void buy() {
        CHECKS.begin("promise 2, buy");
        MachineRing ring = new MachineRing();
        CHECKS.due("buy(2, 2, 99)", ring.buy(2, 2, 99), 0);
        CHECKS.due("buy(0, 0, 1)", ring.buy(0, 0, 1), 1);
        CHECKS.due("buy(2, 2, 50)", ring.buy(2, 2, 50), 2);
        CHECKS.due("buy(1, 1, 50)", ring.buy(1, 1, 50), 3);
        CHECKS.due("buy(0, 0, 50)", ring.buy(0, 0, 50), 4);
        CHECKS.due("buy(1, 1, 50)", ring.buy(1, 1, 50), 5);
        CHECKS.dueRow("kind", machine -> ring.machine(machine, 0), 2, 0, 2, 1, 0, 1, Rings.UNKNOWN);
        CHECKS.dueRow("place", machine -> ring.machine(machine, 5), 0, 0, 1, 0, 1, 1);
        CHECKS.dueRow("rate", machine -> ring.machine(machine, 1), 99, 1, 50, 50, 50, 50);
        CHECKS.dueRow("fuel", machine -> (int) (ring.fuel(machine) * 4.0f), 0, 0, 0, 0, 0, 0, -4);
        CHECKS.due("count(2)", ring.count(2), 6);
        for (int shed = 0; shed < 3; shed++) {
            CHECKS.due("buy into a full shed", ring.buy(shed, shed, 1), Rings.FULL);
            CHECKS.due("buy of another kind into it", ring.buy((shed + 1) % 3, shed, 1), Rings.FULL);
        }
        CHECKS.isAct("buy(1, 1, 7)", 4, r -> r.buy(1, 1, 7));
        CHECKS.refused("buy(0, -1, 1)", Rings.UNKNOWN, r -> r.buy(0, -1, 1));
        CHECKS.refused("buy(3, 3, 0)", Rings.UNKNOWN, r -> r.buy(3, 3, 0));
        CHECKS.refused("buy(-1, 1, 1)", Rings.BAD_VALUE, r -> r.buy(-1, 1, 1));
        CHECKS.refused("buy(3, 0, 1)", Rings.BAD_VALUE, r -> r.buy(3, 0, 1));
        CHECKS.refused("buy(0, 0, 0)", Rings.BAD_VALUE, r -> r.buy(0, 0, 0));
        CHECKS.refused("buy(0, 1, 100)", Rings.BAD_VALUE, r -> r.buy(0, 1, 100));
        CHECKS.refused("buy(1, 0, 1)", Rings.FULL, r -> r.buy(1, 0, 1));
        CHECKS.refused("buy(2, 1, 1)", Rings.NOT_POSSIBLE, r -> r.buy(2, 1, 1));
    }

    private static void buyBehindRestore() {
        CHECKS.begin("promise 2, in the place of a machine that is gone by restore()");
        MachineRing ring = new MachineRing();
        ring.keep();
        ring.set(0, 10);
        ring.buy(0, 0, 9);
        ring.fill(0, 0, 500);
        ring.book(1, 0, 1, 12);
        ring.pass(1);
        ring.mend(0);
        ring.book(1, 0, 1, 11);
        ring.pass(1);
        CHECKS.dueRow("machine 0", what -> ring.machine(0, what),
                0, 9, 1, 11, 23, 0, Float.floatToIntBits(304.5f), 1);
        ring.restore();
        CHECKS.due("count(2)", ring.count(2), 0);
        CHECKS.due("machine(0, 0)", ring.machine(0, 0), Rings.UNKNOWN);
        CHECKS.due("buy(2, 2, 8)", ring.buy(2, 2, 8), 0);
        CHECKS.dueRow("machine 0", what -> ring.machine(0, what), 2, 8, 0, 0, 0, 0, 0, 0);
        CHECKS.due("hours(0, 1)", ring.hours(0, 1), 0);
    }

    private static void license() {
        CHECKS.begin("promise 3, license");
        MachineRing ring = new MachineRing();
        CHECKS.due("license(0, 7)", ring.license(0, 7), 1);
        CHECKS.due("license(0, 0)", ring.license(0, 0), 7);
        CHECKS.due("license(0, 0)", ring.license(0, 0), Rings.NONE);
        CHECKS.due("license(5, 6)", ring.license(5, 6), 1);
        CHECKS.dueRow("licences", farmer -> ring.farmer(farmer, 1), 0, 1, 1, 1, 1, 6);
        CHECKS.isAct("license(2, 5)", 1, r -> r.license(2, 5));
        CHECKS.refused("license(-1, 8)", Rings.UNKNOWN, r -> r.license(-1, 8));
        CHECKS.refused("license(6, 1)", Rings.UNKNOWN, r -> r.license(6, 1));
        CHECKS.refused("license(0, -1)", Rings.BAD_VALUE, r -> r.license(0, -1));
        CHECKS.refused("license(0, 8)", Rings.BAD_VALUE, r -> r.license(0, 8));
        CHECKS.refused("license(3, 1)", Rings.NONE, r -> r.license(3, 1));
    }

    private static void setRate() {
        CHECKS.begin("promise 4, setRate");
        MachineRing ring = Rings.fuelled();
        CHECKS.due("setRate(0, 99)", ring.setRate(0, 99), 20);
        CHECKS.due("setRate(0, 1)", ring.setRate(0, 1), 99);
        CHECKS.dueRow("rate", machine -> ring.machine(machine, 1), 1, 33, 50);
        CHECKS.isAct("setRate(2, 51)", 50, r -> r.setRate(2, 51));
        CHECKS.refused("setRate(-1, 0)", Rings.UNKNOWN, r -> r.setRate(-1, 0));
        CHECKS.refused("setRate(4, 1)", Rings.UNKNOWN, r -> r.setRate(4, 1));
        CHECKS.refused("setRate(0, 0)", Rings.BAD_VALUE, r -> r.setRate(0, 0));
        CHECKS.refused("setRate(0, 100)", Rings.BAD_VALUE, r -> r.setRate(0, 100));
        CHECKS.refused("setRate(0, 20)", Rings.NONE, r -> r.setRate(0, 20));
    }

    private static void fill() {
        CHECKS.begin("promise 5, fill");
        MachineRing ring = new MachineRing();
        ring.buy(0, 0, 20);
        CHECKS.due("fill(0, 0, 1)", ring.fill(0, 0, 1), 2);
        CHECKS.due("fill(5, 0, 500)", ring.fill(5, 0, 500), 1000);
        CHECKS.dueFloat("fuel(0)", ring.fuel(0), 501.0f);
        CHECKS.due("fill(0, 0, 100)", ring.fill(0, 0, 100), Rings.FULL);
        CHECKS.due("fill(0, 0, 99)", ring.fill(0, 0, 99), 198);
        CHECKS.dueFloat("fuel(0)", ring.fuel(0), 600.0f);
        CHECKS.dueRow("litres", farmer -> ring.farmer(farmer, 3), 100, 0, 0, 0, 0, 500);
        CHECKS.dueRow("account", farmer -> ring.farmer(farmer, 0), 0, 0, 0, 0, 0, 0);
        CHECKS.due("count(7)", ring.count(7), -1200);
        CHECKS.due("count(16)", ring.count(16), 1200);
        ring.book(1, 0, 1, 1);
        ring.pass(1);
        CHECKS.dueFloat("fuel(0)", ring.fuel(0), 591.5f);
        CHECKS.due("fill(0, 0, 9), half a litre too much", ring.fill(0, 0, 9), Rings.FULL);
        CHECKS.due("fill(0, 0, 8)", ring.fill(0, 0, 8), 16);
        CHECKS.isAct("fill(3, 1, 7)", 14, r -> r.fill(3, 1, 7));
        CHECKS.isAct("fill() of a broken one", 2, r -> r.fill(3, 0, 1));
        CHECKS.refused("fill(6, 0, 0)", Rings.UNKNOWN, r -> r.fill(6, 0, 0));
        CHECKS.refused("fill(-1, 0, 1)", Rings.UNKNOWN, r -> r.fill(-1, 0, 1));
        CHECKS.refused("fill(0, 4, 501)", Rings.UNKNOWN, r -> r.fill(0, 4, 501));
        CHECKS.refused("fill(0, -1, 1)", Rings.UNKNOWN, r -> r.fill(0, -1, 1));
        CHECKS.refused("fill(0, 0, 0)", Rings.BAD_VALUE, r -> r.fill(0, 0, 0));
        CHECKS.refused("fill(0, 2, 501)", Rings.BAD_VALUE, r -> r.fill(0, 2, 501));
        CHECKS.refused("fill(0, 2, 500)", Rings.FULL, r -> r.fill(0, 2, 500));
    }

    private static void mend() {
        CHECKS.begin("promise 6, mend");
        MachineRing ring = Rings.fuelled();
        ring.set(0, 10);
        ring.set(1, 101);
        CHECKS.due("mend(0)", ring.mend(0), Rings.NONE);
        Rings.bookText(ring, "0m0+1h4,1m0+1h3,2m0+1h3");
        CHECKS.due("pass(1)", ring.pass(1), 3);
        CHECKS.due("machine(0, 2)", ring.machine(0, 2), 1);
        CHECKS.due("count(7)", ring.count(7), -3000);
        CHECKS.due("mend(0): 101 - 40 - 30 - 30", ring.mend(0), 1);
        CHECKS.dueRow("parts", farmer -> ring.farmer(farmer, 6), 40, 30, 30, 0, 0, 0);
        CHECKS.dueRow("accounts", farmer -> ring.farmer(farmer, 0), -120, -90, -90, 0, 0, 0);
        CHECKS.dueRow("charged", farmer -> ring.farmer(farmer, 5), 80, 60, 60, 0, 0, 0);
        CHECKS.dueRow("hours on it", farmer -> ring.hours(0, farmer), 0, 0, 0, 0, 0, 0);
        CHECKS.dueRow("machine 0", what -> ring.machine(0, what), 0, 20, 0, 0, 10);
        CHECKS.due("machine(0, 7)", ring.machine(0, 7), 1);
        CHECKS.due("count(7)", ring.count(7), -3101);
        CHECKS.due("count(15)", ring.count(15), 101);
        CHECKS.due("mend(0)", ring.mend(0), Rings.NONE);
        ring.set(1, 0);
        ring.book(3, 0, 1, 12);
        CHECKS.due("pass(1)", ring.pass(1), 1);
        CHECKS.due("mend(0) for nothing", ring.mend(0), 0);
        CHECKS.due("machine(0, 7)", ring.machine(0, 7), 2);
        CHECKS.dueRow("parts", farmer -> ring.farmer(farmer, 6), 40, 30, 30, 0, 0, 0);
        CHECKS.due("count(15)", ring.count(15), 101);
        CHECKS.isAct("mend(0)", 0, r -> r.mend(0));
        CHECKS.refused("mend(-1)", Rings.UNKNOWN, r -> r.mend(-1));
        CHECKS.refused("mend(4)", Rings.UNKNOWN, r -> r.mend(4));
        CHECKS.refused("mend(1)", Rings.NONE, r -> r.mend(1));
    }

    private static void mendAtTheDearest() {
        CHECKS.begin("promise 6, mend at 9999");
        MachineRing ring = Rings.fuelled();
        ring.set(0, 10);
        ring.set(1, 9999);
        Rings.bookText(ring, "0m0+1h6,5m0+1h1,4m0+1h4");
        ring.pass(1);
        CHECKS.due("mend(0): 9999 * 6 / 11 and so on", ring.mend(0), 9999 - 5454 - 909 - 3636);
        CHECKS.dueRow("parts", farmer -> ring.farmer(farmer, 6), 5454, 0, 0, 0, 3636, 909);
        CHECKS.due("count(7)", ring.count(7), -3000 - 9999);
        CHECKS.due("count(15)", ring.count(15), 9999);
    }

    private static void pay() {
        CHECKS.begin("promise 7, pay");
        MachineRing ring = new MachineRing();
        CHECKS.due("pay(0, 1)", ring.pay(0, 1), 1);
        CHECKS.due("pay(0, 9999)", ring.pay(0, 9999), 10000);
        CHECKS.due("pay(5, 20)", ring.pay(5, 20), 20);
        CHECKS.dueRow("account", farmer -> ring.farmer(farmer, 0), 10000, 0, 0, 0, 0, 20);
        CHECKS.due("count(7)", ring.count(7), 10020);
        CHECKS.due("count(8)", ring.count(8), 10020);
        CHECKS.due("count(17)", ring.count(17), 10020);
        CHECKS.isAct("pay(0, 50)", -150, r -> r.pay(0, 50));
        CHECKS.refused("pay(6, 0)", Rings.UNKNOWN, r -> r.pay(6, 0));
        CHECKS.refused("pay(-1, 1)", Rings.UNKNOWN, r -> r.pay(-1, 1));
        CHECKS.refused("pay(0, 0)", Rings.BAD_VALUE, r -> r.pay(0, 0));
        CHECKS.refused("pay(0, 10000)", Rings.BAD_VALUE, r -> r.pay(0, 10000));
    }
}
