/** The edges of promises 8 and 10 and of the terms on bookings: a test a sentence. */
public final class BookingEdgesTests {
    private static final Checks CHECKS = new Checks();
    private static final int LEAST = Integer.MIN_VALUE;
    private static final int MOST = Integer.MAX_VALUE;

    public static void main(String[] args) {
        hoursOfABooking();
        numbersAreInOrder();
        numbersAreNotGivenAgain();
        thirtyStand();
        roomComesAgain();
        twelveHoursADay();
        book();
        bookingsThatCannotBeMade();
        takeBack();
        CHECKS.end();
    }

    // ---- terms

    private static void hoursOfABooking() {
        CHECKS.terms("A booking is of a farmer, a machine, a day and hours (1 to 12)");
        MachineRing ring = Rings.fuelled();
        CHECKS.due("0 hours", ring.book(4, 0, 1, 0), Rings.BAD_VALUE);
        CHECKS.due("1 hour", ring.book(4, 0, 1, 1), 0);
        CHECKS.due("12 hours", ring.book(5, 2, 99, 12), 1);
        CHECKS.due("13 hours", ring.book(4, 1, 1, 13), Rings.BAD_VALUE);
        CHECKS.dueRow("booking 0", what -> ring.booking(0, what), 4, 0, 1, 1, 0, 20);
        CHECKS.dueRow("booking 1", what -> ring.booking(1, what), 5, 2, 99, 12, 0, 900 + 72);
    }

    private static void numbersAreInOrder() {
        CHECKS.terms("bookings are numbered from 0 in the order in which they were made");
        MachineRing ring = Rings.fuelled();
        for (int n = 0; n < 12; n++) {
            CHECKS.due("later days first", ring.book(n % 6, n % 3, 99 - n, 1), n);
            CHECKS.due("its day", ring.booking(n, 2), 99 - n);
        }
        CHECKS.due("of a text too", Rings.bookText(ring, "1m0+5h1,2m0+4h1"), 2);
        CHECKS.dueRow("farmers", n -> ring.booking(12 + n, 0), 1, 2, Rings.UNKNOWN);
        CHECKS.due("bookings so far", ring.count(4), 14);
    }

    private static void numbersAreNotGivenAgain() {
        CHECKS.terms("(never given again)");
        MachineRing ring = Rings.fuelled();
        CHECKS.due("the first", ring.book(0, 0, 1, 1), 0);
        CHECKS.due("the second", ring.book(0, 0, 2, 1), 1);
        CHECKS.due("taken back", ring.takeBack(1), 1);
        CHECKS.due("the last was taken back", ring.book(0, 0, 2, 1), 2);
        CHECKS.due("taken back", ring.takeBack(0), 1);
        CHECKS.due("the first was taken back", ring.book(0, 0, 1, 1), 3);
        CHECKS.due("all are done", ring.pass(2), 2);
        CHECKS.due("all are done", ring.book(0, 0, 1, 1), 4);
        CHECKS.due("refused", ring.book(0, 0, 1, 12), Rings.NOT_POSSIBLE);
        CHECKS.due("a refused one takes no number", ring.book(0, 0, 1, 11), 5);
        CHECKS.due("a refused text", Rings.bookText(ring, "0m0+2h1,0m0+1h1"), Rings.NOT_POSSIBLE);
        CHECKS.due("nor does a refused text", ring.book(0, 0, 2, 1), 6);
        CHECKS.dueRow("who stands", booking -> ring.booking(booking, 1), Rings.UNKNOWN, Rings.UNKNOWN, Rings.UNKNOWN,
                Rings.UNKNOWN, 0, 0, 0, Rings.UNKNOWN);
    }

    /** Thirty on thirty days, each of 12 hours of the tractor. */
    private static MachineRing thirty() {
        MachineRing ring = Rings.fuelled();
        for (int n = 0; n < 30; n++) {
            ring.book(n % 6, 0, n + 1, 12);
        }
        return ring;
    }

    private static void thirtyStand() {
        CHECKS.terms("at most 30 stand");
        MachineRing ring = Rings.fuelled();
        for (int n = 0; n < 30; n++) {
            CHECKS.due("booking " + n, ring.book(n % 6, 0, n + 1, 12), n);
            CHECKS.due("count(3)", ring.count(3), n + 1);
        }
        CHECKS.due("the 31st", ring.book(0, 1, 1, 1), Rings.FULL);
        CHECKS.due("count(3)", ring.count(3), 30);
        CHECKS.due("count(4)", ring.count(4), 30);
        for (int n = 0; n < 30; n++) {
            int number = n;
            CHECKS.dueRow("booking " + n, what -> ring.booking(number, what), n % 6, 0, n + 1, 12, 0, 240);
        }
        CHECKS.due("booking(30, 0)", ring.booking(30, 0), Rings.UNKNOWN);
        CHECKS.dueRow("of the farmers", farmer -> ring.farmer(farmer, 4), 5, 5, 5, 5, 5, 5);
    }

    private static void roomComesAgain() {
        CHECKS.terms("at most 30 stand");
        for (int gone : new int[] {0, 13, 29}) {
            MachineRing back = thirty();
            CHECKS.due("takeBack(" + gone + ")", back.takeBack(gone), 29);
            CHECKS.due("one again", back.book(3, 0, gone + 1, 12), 30);
            CHECKS.due("and no more", back.book(3, 1, 1, 1), Rings.FULL);
            CHECKS.due("of the farmer", back.farmer(3, 4), 6);
        }
        MachineRing done = thirty();
        CHECKS.due("pass(1)", done.pass(1), 1);
        CHECKS.due("one again", done.book(3, 1, 1, 1), 30);
        CHECKS.due("and no more", done.book(3, 1, 2, 1), Rings.FULL);
        MachineRing putOff = thirty();
        putOff.set(0, 10);
        CHECKS.due("pass(3): one done, two put off", putOff.pass(3), 1);
        CHECKS.due("29 stand", putOff.count(3), 29);
        CHECKS.due("one again", putOff.book(3, 1, 1, 1), 30);
        CHECKS.due("and no more", putOff.book(3, 1, 2, 1), Rings.FULL);
    }

    private static void twelveHoursADay() {
        CHECKS.terms("A machine has at most 12 hours booked for a day");
        for (int first = 1; first < 12; first++) {
            MachineRing ring = Rings.fuelled();
            CHECKS.due("hours " + first, ring.book(0, 0, 5, first), 0);
            CHECKS.due("13 in all", ring.book(1, 0, 5, 13 - first), Rings.NOT_POSSIBLE);
            CHECKS.due("12 in all", ring.book(1, 0, 5, 12 - first), 1);
            CHECKS.due("an hour more", ring.book(2, 0, 5, 1), Rings.NOT_POSSIBLE);
            CHECKS.due("booked(0, 5)", ring.booked(0, 5), 12);
        }
        MachineRing ring = Rings.fuelled();
        ring.book(0, 0, 5, 12);
        CHECKS.due("the day ahead of it", ring.book(0, 0, 4, 12), 1);
        CHECKS.due("the day behind it", ring.book(0, 0, 6, 12), 2);
        CHECKS.due("another machine", ring.book(0, 1, 5, 12), 3);
        CHECKS.due("12 of one hour are made", twelveOfOneHour(), 12);
        ring.takeBack(0);
        CHECKS.due("taken back, there is room", ring.book(0, 0, 5, 12), 4);
        ring.pass(1);
        CHECKS.due("the same day, in fewer days", ring.book(0, 0, 4, 1), Rings.NOT_POSSIBLE);
    }

    private static int twelveOfOneHour() {
        MachineRing ring = Rings.fuelled();
        for (int n = 0; n < 14; n++) {
            ring.book(n % 6, 2, 7, 1);
        }
        return ring.count(3);
    }

    // ---- promise 8

    private static void book() {
        CHECKS.promise(8, "Books a machine");
        MachineRing booked = Rings.fuelled();
        CHECKS.due("book(5, 2, 99, 12)", booked.book(5, 2, 99, 12), 0);
        CHECKS.dueRow("booking 0", what -> booked.booking(0, what), 5, 2, 99, 12, 0, 972);
        CHECKS.due("nothing is charged yet", booked.farmer(5, 0), 0);

        CHECKS.promise(8, "farmer: 0 to 5");
        CHECKS.isAct("farmer 0", 5, r -> r.book(0, 1, 1, 1));
        CHECKS.isAct("farmer 5", 5, r -> r.book(5, 1, 1, 1));
        CHECKS.refused("farmer -1", Rings.UNKNOWN, r -> r.book(-1, 1, 1, 1));
        CHECKS.refused("farmer 6", Rings.UNKNOWN, r -> r.book(6, 1, 1, 1));
        CHECKS.refused("the least farmer", Rings.UNKNOWN, r -> r.book(LEAST, 1, 1, 1));
        CHECKS.refused("the greatest farmer", Rings.UNKNOWN, r -> r.book(MOST, 1, 1, 1));

        CHECKS.promise(8, "machine: a machine");
        CHECKS.isAct("machine 0", 5, r -> r.book(0, 0, 1, 1));
        CHECKS.isAct("machine 3", 5, r -> r.book(0, 3, 1, 1));
        CHECKS.refused("machine -1", Rings.UNKNOWN, r -> r.book(0, -1, 1, 1));
        CHECKS.refused("machine 4", Rings.UNKNOWN, r -> r.book(0, 4, 1, 1));
        CHECKS.refused("the least machine", Rings.UNKNOWN, r -> r.book(0, LEAST, 1, 1));
        CHECKS.refused("the greatest machine", Rings.UNKNOWN, r -> r.book(0, MOST, 1, 1));

        CHECKS.promise(8, "in: in how many days, 1 to 99");
        CHECKS.isAct("in 1 day", 5, r -> r.book(0, 1, 1, 1));
        CHECKS.isAct("in 99 days", 5, r -> r.book(0, 1, 99, 1));
        CHECKS.refused("today", Rings.BAD_VALUE, r -> r.book(0, 1, 0, 1));
        CHECKS.refused("yesterday", Rings.BAD_VALUE, r -> r.book(0, 1, -1, 1));
        CHECKS.refused("in 100 days", Rings.BAD_VALUE, r -> r.book(0, 1, 100, 1));
        CHECKS.refused("in the least days", Rings.BAD_VALUE, r -> r.book(0, 1, LEAST, 1));
        CHECKS.refused("in the greatest days", Rings.BAD_VALUE, r -> r.book(0, 1, MOST, 1));
        MachineRing ring = Rings.busy();
        ring.book(0, 1, 1, 1);
        ring.book(0, 1, 99, 1);
        CHECKS.due("from day 1 on", ring.booking(5, 2), 2);
        CHECKS.due("from day 1 on", ring.booking(6, 2), 100);

        CHECKS.promise(8, "hours: 1 to 12");
        CHECKS.isAct("1 hour", 5, r -> r.book(0, 1, 1, 1));
        CHECKS.isAct("12 hours", 5, r -> r.book(0, 1, 1, 12));
        CHECKS.refused("0 hours", Rings.BAD_VALUE, r -> r.book(0, 1, 1, 0));
        CHECKS.refused("-1 hour", Rings.BAD_VALUE, r -> r.book(0, 1, 1, -1));
        CHECKS.refused("13 hours", Rings.BAD_VALUE, r -> r.book(0, 1, 1, 13));
        CHECKS.refused("the least hours", Rings.BAD_VALUE, r -> r.book(0, 1, 1, LEAST));
        CHECKS.refused("the greatest hours", Rings.BAD_VALUE, r -> r.book(0, 1, 1, MOST));
    }

    private static void bookingsThatCannotBeMade() {
        CHECKS.promise(8, "FULL if 30 stand");
        CHECKS.refused(BookingEdgesTests::thirty, "the 31st", Rings.FULL, r -> r.book(0, 0, 31, 1));
        CHECKS.refused(BookingEdgesTests::thirty, "of another machine", Rings.FULL, r -> r.book(0, 1, 99, 12));
        CHECKS.refused(Rings::full, "all is full", Rings.FULL, r -> r.book(5, 5, 99, 1));

        CHECKS.promise(8, "NOT_POSSIBLE if the machine has not so many hours left on that day");
        CHECKS.isAct("9 hours behind 3", 5, r -> r.book(2, 3, 2, 9));
        CHECKS.refused("10 hours behind 3", Rings.NOT_POSSIBLE, r -> r.book(2, 3, 2, 10));
        CHECKS.refused("12 hours behind 3", Rings.NOT_POSSIBLE, r -> r.book(2, 3, 2, 12));
        CHECKS.refused("1 hour behind 12", Rings.NOT_POSSIBLE, r -> r.book(0, 2, 3, 1));
        CHECKS.isAct("1 hour ahead of 12", 5, r -> r.book(0, 2, 2, 1));

        CHECKS.promise(8, "Returns the number of the booking; UNKNOWN (farmer or machine); BAD_VALUE; FULL");
        CHECKS.refused("UNKNOWN (farmer) ahead of BAD_VALUE (in)", Rings.UNKNOWN, r -> r.book(6, 0, 0, 1));
        CHECKS.refused("UNKNOWN (farmer) ahead of BAD_VALUE (hours)", Rings.UNKNOWN, r -> r.book(-1, 0, 1, 13));
        CHECKS.refused("UNKNOWN (machine) ahead of BAD_VALUE (in)", Rings.UNKNOWN, r -> r.book(0, 4, 100, 1));
        CHECKS.refused("UNKNOWN (machine) ahead of BAD_VALUE (hours)", Rings.UNKNOWN, r -> r.book(0, -1, 1, 0));
        CHECKS.refused(Rings::full, "UNKNOWN (farmer) ahead of FULL", Rings.UNKNOWN, r -> r.book(6, 0, 1, 1));
        CHECKS.refused(Rings::full, "UNKNOWN (machine) ahead of FULL", Rings.UNKNOWN, r -> r.book(0, 6, 1, 1));
        CHECKS.refused("UNKNOWN ahead of NOT_POSSIBLE", Rings.UNKNOWN, r -> r.book(6, 2, 3, 1));
        CHECKS.refused(Rings::full, "BAD_VALUE (in) ahead of FULL", Rings.BAD_VALUE, r -> r.book(0, 0, 0, 1));
        CHECKS.refused(Rings::full, "BAD_VALUE (hours) ahead of FULL", Rings.BAD_VALUE, r -> r.book(0, 0, 9, 13));
        CHECKS.refused("BAD_VALUE ahead of NOT_POSSIBLE", Rings.BAD_VALUE, r -> r.book(0, 2, 3, 13));
        CHECKS.refused(Rings::full, "FULL ahead of NOT_POSSIBLE", Rings.FULL, r -> r.book(0, 0, 1, 1));
    }

    // ---- promise 10

    private static void takeBack() {
        CHECKS.promise(10, "booking: a booking that stands");
        CHECKS.isAct("the first that stands", 2, r -> r.takeBack(2));
        CHECKS.isAct("one between", 2, r -> r.takeBack(3));
        CHECKS.isAct("the last that stands", 2, r -> r.takeBack(4));
        CHECKS.refused("one that is done", Rings.UNKNOWN, r -> r.takeBack(0));
        CHECKS.refused("the last that is done", Rings.UNKNOWN, r -> r.takeBack(1));
        CHECKS.refused("one that was not made", Rings.UNKNOWN, r -> r.takeBack(5));
        CHECKS.refused("-1", Rings.UNKNOWN, r -> r.takeBack(-1));
        CHECKS.refused("the least", Rings.UNKNOWN, r -> r.takeBack(LEAST));
        CHECKS.refused("the greatest", Rings.UNKNOWN, r -> r.takeBack(MOST));
        CHECKS.refused(Rings::full, "31 of 1 to 30", Rings.UNKNOWN, r -> r.takeBack(31));
        CHECKS.refused(Rings::full, "0 of 1 to 30", Rings.UNKNOWN, r -> r.takeBack(0));
        CHECKS.refused(MachineRing::new, "0 of none", Rings.UNKNOWN, r -> r.takeBack(0));

        CHECKS.promise(10, "Takes a booking back");
        MachineRing back = Rings.busy();
        back.takeBack(3);
        CHECKS.dueRow("what stands", booking -> back.booking(booking, 0), Rings.UNKNOWN, Rings.UNKNOWN, 3,
                Rings.UNKNOWN, 4, Rings.UNKNOWN);
        CHECKS.due("its hours are free", back.booked(2, 3), 0);
        CHECKS.due("nothing is charged", back.farmer(1, 0), -224);

        CHECKS.promise(10, "Returns how many stand then; UNKNOWN");
        MachineRing ring = thirty();
        for (int n = 0; n < 30; n++) {
            int number = n % 2 == 0 ? n / 2 : 29 - n / 2;
            CHECKS.due("takeBack(" + number + ")", ring.takeBack(number), 29 - n);
            CHECKS.due("again", ring.takeBack(number), Rings.UNKNOWN);
            CHECKS.due("its farmer", ring.booking(number, 0), Rings.UNKNOWN);
            CHECKS.due("its day is free", ring.booked(0, number + 1), 0);
        }
        CHECKS.due("bookings so far stay", ring.count(4), 30);
        CHECKS.due("done so far", ring.count(5), 0);
        CHECKS.due("pass(60)", ring.pass(60), 0);
        CHECKS.dueRow("nothing is charged", farmer -> ring.farmer(farmer, 0), 0, 0, 0, 0, 0, 0);
    }
}
