/** Rings to begin a test with, and what can be seen of a ring. */
final class Rings {
    static final int UNKNOWN = -100000001;
    static final int BAD_VALUE = -100000002;
    static final int FULL = -100000003;
    static final int NOT_POSSIBLE = -100000004;
    static final int NONE = -100000005;
    static final int TEXT_FAULT = -100000100;

    private Rings() {
    }

    static void write(MachineRing ring, String text) {
        ring.clearText();
        for (int i = 0; i < text.length(); i++) {
            ring.type(text.charAt(i));
        }
    }

    static int bookText(MachineRing ring, String text) {
        write(ring, text);
        return ring.bookAll();
    }

    /** One pass() takes at most 60 days. */
    static void passTo(MachineRing ring, int day) {
        while (ring.count(0) < day) {
            ring.pass(Math.min(60, day - ring.count(0)));
        }
    }

    /** Machine 0 a tractor at 20, 1 a baler at 33, 2 a combine at 50; all with 500 litres, filled by farmer 5. */
    static MachineRing fuelled() {
        MachineRing ring = new MachineRing();
        ring.buy(0, 0, 20);
        ring.buy(1, 1, 33);
        ring.buy(2, 2, 50);
        for (int machine = 0; machine < 3; machine++) {
            ring.fill(5, machine, 500);
        }
        return ring;
    }

    /**
     * A ring on day 1 with something of everything: machine 0 broken by farmer 0 (10 hours), 4 hours of farmer 1
     * on machine 2, bookings 2, 3 and 4 standing, a snapshot, a text, 3 states in the history.
     */
    static MachineRing busy() {
        MachineRing ring = new MachineRing();
        ring.buy(0, 0, 20);
        ring.buy(1, 1, 33);
        ring.buy(2, 2, 50);
        ring.buy(0, 0, 10);
        ring.fill(1, 0, 200);
        ring.fill(2, 2, 300);
        ring.fill(0, 3, 100);
        ring.set(0, 10);
        ring.book(0, 0, 1, 10);
        ring.book(1, 2, 1, 4);
        ring.pass(1);
        ring.book(3, 3, 2, 3);
        ring.book(1, 2, 3, 12);
        ring.book(4, 0, 2, 5);
        ring.setSeed(5);
        ring.keep();
        write(ring, "0m3+1h1");
        ring.pay(5, 1);
        ring.undo();
        return ring;
    }

    /** What can be seen of a ring, in fewer than 200 calls: an object is used for 512. */
    static String picture(MachineRing ring) {
        StringBuilder seen = new StringBuilder();
        for (int what = 0; what < 18; what++) {
            seen.append(ring.count(what)).append(' ');
        }
        for (int farmer = 0; farmer < 6; farmer++) {
            for (int what = 0; what < 7; what++) {
                seen.append(ring.farmer(farmer, what)).append(' ');
            }
        }
        for (int machine = 0; machine < 5; machine++) {
            for (int what = 0; what < 8; what++) {
                seen.append(ring.machine(machine, what)).append(' ');
            }
            for (int farmer = 0; farmer < 6; farmer++) {
                seen.append(ring.hours(machine, farmer)).append(' ');
            }
        }
        for (int booking = 0; booking < 7; booking++) {
            for (int what = 0; what < 6; what++) {
                seen.append(ring.booking(booking, what)).append(' ');
            }
        }
        return seen.toString();
    }
}
