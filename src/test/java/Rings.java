/** Rings to begin a test with, and what can be seen of a ring. */
final class Rings {
    static final int UNKNOWN = -100000001;
    static final int BAD_VALUE = -100000002;
    static final int FULL = -100000003;
    static final int NOT_POSSIBLE = -100000004;
    static final int NONE = -100000005;
    static final int TEXT_FAULT = -100000100;

    private Rings() {
    }

    static void write(MachineRing ring, String text) {
        ring.clearText();
        for (int i = 0; i < text.length(); i++) {
            ring.type(text.charAt(i));
        }
    }

    static int bookText(MachineRing ring, String text) {
        write(ring, text);
        return ring.bookAll();
    }

    /** One pass() takes at most 60 days. */
    static void passTo(MachineRing ring, int day) {
        while (ring.count(0) < day) {
            ring.pass(Math.min(60, day - ring.count(0)));
        }
    }

    /** Machine 0 a tractor at 20, 1 a baler at 33, 2 a combine at 50; all with 500 litres, filled by farmer 5. */
    static MachineRing fuelled() {
        MachineRing ring = new MachineRing();
        ring.buy(0, 0, 20);
        ring.buy(1, 1, 33);
        ring.buy(2, 2, 50);
        for (int machine = 0; machine < 3; machine++) {
            ring.fill(5, machine, 500);
        }
        return ring;
    }

    /**
     * A ring on day 1 with something of everything: machine 0 broken by farmer 0 (10 hours), 4 hours of farmer 1
     * on machine 2, bookings 2, 3 and 4 standing, a text, 3 states in the history, a snapshot with the seed 0.
     */
    static MachineRing busy() {
        return busy("0m3+1h1");
    }

    static MachineRing busy(String text) {
        MachineRing ring = new MachineRing();
        ring.buy(0, 0, 20);
        ring.buy(1, 1, 33);
        ring.buy(2, 2, 50);
        ring.buy(0, 0, 10);
        ring.fill(1, 0, 200);
        ring.fill(2, 2, 300);
        ring.fill(0, 3, 100);
        ring.set(0, 10);
        ring.book(0, 0, 1, 10);
        ring.book(1, 2, 1, 4);
        ring.pass(1);
        ring.book(3, 3, 2, 3);
        ring.book(1, 2, 3, 12);
        ring.book(4, 0, 2, 5);
        ring.keep();
        ring.setSeed(5);
        write(ring, text);
        ring.pay(5, 1);
        ring.undo();
        return ring;
    }

    /** The same with a state more, of which there is no room for another one. */
    static MachineRing busyWithFourStates() {
        MachineRing ring = busy();
        ring.pay(4, 44);
        return ring;
    }

    /** The same with an empty history. */
    static MachineRing undone() {
        MachineRing ring = busy();
        while (ring.count(13) > 0) {
            ring.undo();
        }
        return ring;
    }

    /** Seven bookings in 60 signs, for six machines. */
    static final String FULL_TEXT = "0m0+10h1,1m1+10h1,2m2+10h1,3m3+10h1,4m4+10h1,5m5+1h1,0m1+1h1";

    /**
     * A ring on day 1 in which all is full: six machines with 600 litres (n and n + 3 of the kind n), of which
     * number 0 is broken by 12 hours of farmer 2, 30 bookings (1 to 30) of 12 hours on the next five days,
     * 60 signs of text, 4 states, a snapshot without bookings.
     */
    static MachineRing full() {
        MachineRing ring = new MachineRing();
        for (int machine = 0; machine < 6; machine++) {
            ring.buy(machine % 3, machine % 3, machine + 1);
            ring.fill(machine, machine, 500);
            ring.fill(machine, machine, 100);
        }
        ring.set(0, 10);
        ring.book(2, 0, 1, 12);
        ring.pass(1);
        ring.fill(2, 0, 102);
        ring.keep();
        for (int n = 0; n < 30; n++) {
            ring.book(n % 6, n % 6, 1 + n / 6, 12);
        }
        write(ring, FULL_TEXT);
        return ring;
    }

    /** What can be seen of a ring, in at most 370 calls: an object is used for 512. */
    static String picture(MachineRing ring) {
        StringBuilder seen = new StringBuilder();
        for (int what = 0; what < 18; what++) {
            seen.append(ring.count(what)).append(' ');
        }
        for (int farmer = 0; farmer < 6; farmer++) {
            for (int what = 0; what < 7; what++) {
                seen.append(ring.farmer(farmer, what)).append(' ');
            }
        }
        for (int machine = 0; machine < ring.count(2); machine++) {
            for (int what = 0; what < 8; what++) {
                seen.append(ring.machine(machine, what)).append(' ');
            }
            for (int farmer = 0; farmer < 6; farmer++) {
                seen.append(ring.hours(machine, farmer)).append(' ');
            }
        }
        for (int booking = 0; booking < 40; booking++) {
            seen.append(ring.booking(booking, 0)).append(' ');
            for (int what = 1; what < 6 && ring.booking(booking, 0) >= 0; what++) {
                seen.append(ring.booking(booking, what)).append(' ');
            }
        }
        return seen.toString();
    }

    /** How many looks show all of a ring; each needs a ring of its own, as it changes what it looks at. */
    static final int LOOKS = 7;

    /** Look 0 shows the state, 1 to 4 the history, 5 the snapshot, 6 the text. */
    static String look(MachineRing ring, int which) {
        String answers = "";
        if (which == 5) {
            answers += ring.restore();
        } else if (which == 6) {
            answers += ring.bookAll();
        } else {
            for (int n = 0; n < which; n++) {
                answers += ring.undo() + " ";
            }
        }
        return answers + ": " + picture(ring);
    }
}
