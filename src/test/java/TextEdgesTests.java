import java.util.List;

/** The edges of promises 9, 14 and 15 and of the terms on texts: a test a sentence. */
public final class TextEdgesTests {
    private static final Checks CHECKS = new Checks();
    /** Characters looked at in each place of a text: all up to here, and the greatest. */
    private static final int SIGNS = 400;

    public static void main(String[] args) {
        sixtyCharacters();
        charactersAllowed();
        charactersAllowedInTheSecondBooking();
        numbersOfDays();
        numbersOfHours();
        tooEarlyAnEnd();
        theFirstFault();
        oneOrMoreBookings();
        fullTexts();
        bookAllStays();
        bookAllOrNone();
        bookAllIsOneAct();
        errorsOfBookAll();
        type();
        clearText();
        CHECKS.end();
    }

    private static int bookAll(String text) {
        return Rings.bookText(Rings.fuelled(), text);
    }

    private static void fault(String text, int place) {
        CHECKS.due("bookAll() of '" + text + "'", bookAll(text), Rings.TEXT_FAULT - place);
    }

    // ---- the terms

    private static void sixtyCharacters() {
        CHECKS.terms("There is a text of at most 60 characters, empty at first");
        MachineRing ring = new MachineRing();
        CHECKS.due("at first", ring.count(14), 0);
        CHECKS.due("clearText() at first", ring.clearText(), 0);
        for (int n = 1; n <= 60; n++) {
            CHECKS.due("type " + n, ring.type('x'), n);
            CHECKS.due("count(14)", ring.count(14), n);
        }
        CHECKS.due("type 61", ring.type('x'), Rings.FULL);
        CHECKS.due("count(14)", ring.count(14), 60);
    }

    /** In each place just these characters are allowed: any other one is the fault. */
    private static void charactersAllowed() {
        CHECKS.terms("The fault of the text is the index, from 0, of the first character that is not allowed at its place");
        allowed("", "012345");
        allowed("0", "m");
        allowed("5", "m");
        allowed("0m", "012345");
        allowed("0m0", "+");
        allowed("0m5", "+");
        allowed("0m0+", "123456789");
        allowed("0m0+1", "0123456789h");
        allowed("0m0+9", "0123456789h");
        allowed("0m0+10", "h");
        allowed("0m0+99", "h");
        allowed("0m0+1h", "123456789");
        allowed("0m0+99h", "123456789");
        allowed("0m0+1h1", "012,");
        for (int hours = 2; hours <= 9; hours++) {
            allowed("0m0+1h" + hours, ",");
        }
        allowed("0m0+1h10", ",");
        allowed("0m0+1h11", ",");
        allowed("0m0+1h12", ",");
    }

    private static void charactersAllowedInTheSecondBooking() {
        CHECKS.terms("A text of bookings is one or more bookings with \",\" between two");
        allowed("0m0+1h1,", "012345");
        allowed("0m0+1h12,", "012345");
        allowed("0m0+1h1,0", "m");
        allowed("0m0+1h1,0m", "012345");
        allowed("0m0+1h1,0m0", "+");
        allowed("0m0+1h1,0m0+", "123456789");
        allowed("0m0+1h1,0m0+9", "0123456789h");
        allowed("0m0+1h1,0m0+99", "h");
        allowed("0m0+1h1,0m0+99h", "123456789");
        allowed("0m0+1h1,0m0+99h1", "012,");
        allowed("0m0+1h1,0m0+99h2", ",");
        allowed("0m0+1h1,0m0+99h12", ",");
    }

    private static void allowed(String before, String signs) {
        for (int sign = 0; sign <= SIGNS; sign++) {
            allowedOne(before, (char) sign, signs.indexOf(sign) >= 0);
        }
        allowedOne(before, Character.MAX_VALUE, false);
    }

    /** Behind it stands another character that no place allows: its place is the fault if the sign is allowed. */
    private static void allowedOne(String before, char sign, boolean isAllowed) {
        String text = before + sign + 'x';
        CHECKS.due("after '" + before + "' sign " + (int) sign, bookAll(text),
                Rings.TEXT_FAULT - before.length() - (isAllowed ? 1 : 0));
    }

    private static void numbersOfDays() {
        CHECKS.terms("in how many days (1 to 99) without a zero in front (a digit by which it would be above 99 is not allowed)");
        for (int in = 1; in <= 99; in++) {
            MachineRing ring = Rings.fuelled();
            CHECKS.due("in " + in, Rings.bookText(ring, "0m0+" + in + "h1"), 1);
            CHECKS.due("its day", ring.booking(0, 2), in);
            CHECKS.due("its hours", ring.booking(0, 3), 1);
        }
        fault("0m0+0h1", 4);
        fault("0m0+00h1", 4);
        fault("0m0+01h1", 4);
        fault("0m0+099h1", 4);
        for (int in = 100; in <= 999; in++) {
            fault("0m0+" + in + "h1", 6);
        }
        fault("0m0+1000h1", 6);
        fault("0m0+-1h1", 4);
    }

    private static void numbersOfHours() {
        CHECKS.terms("\"h\" and hours (1 to 12, likewise)");
        for (int hours = 1; hours <= 12; hours++) {
            MachineRing ring = Rings.fuelled();
            CHECKS.due("hours " + hours, Rings.bookText(ring, "0m0+1h" + hours), 1);
            CHECKS.due("its day", ring.booking(0, 2), 1);
            CHECKS.due("its hours", ring.booking(0, 3), hours);
        }
        fault("0m0+1h0", 6);
        fault("0m0+1h00", 6);
        fault("0m0+1h01", 6);
        fault("0m0+1h012", 6);
        for (int hours = 13; hours <= 99; hours++) {
            fault("0m0+1h" + hours, 7);
        }
        for (int hours = 100; hours <= 129; hours++) {
            fault("0m0+1h" + hours, 8);
        }
        for (int hours = 130; hours <= 999; hours++) {
            fault("0m0+1h" + hours, 7);
        }
    }

    private static void tooEarlyAnEnd() {
        CHECKS.terms("or the length of the text if it ends too early (the empty text does)");
        fault("", 0);
        String text = "0m0+11h12,5m2+99h9,1m1+5h10";
        List<Integer> wholeLengths = List.of(8, 9, 18, 26, 27);
        for (int length = 1; length <= text.length(); length++) {
            String beginning = text.substring(0, length);
            if (wholeLengths.contains(length)) {
                CHECKS.due("whole: " + beginning, bookAll(beginning), beginning.split(",").length);
            } else {
                fault(beginning, length);
            }
        }
    }

    private static void theFirstFault() {
        CHECKS.terms("of the first character that is not allowed at its place");
        fault("0m0+1h1x6m6+0h0", 7);
        fault("6m6+0h0", 0);
        fault("0m6+0h0", 2);
        fault("0m0+0h0", 4);
        fault("0m0+1h0", 6);
        fault("0m0+1h1,6m0+1h1,6m0+1h1", 8);
        fault("0m0+1h1,0m0+1h1,0m0+1h13", 23);
    }

    private static void oneOrMoreBookings() {
        CHECKS.terms("one or more bookings with \",\" between two");
        CHECKS.due("one", bookAll("0m0+1h1"), 1);
        CHECKS.due("two", bookAll("0m0+1h1,0m0+1h1"), 2);
        CHECKS.due("three", bookAll("0m0+1h1,0m0+1h1,0m0+1h1"), 3);
        CHECKS.due("seven", bookAll("0m0+1h1,0m0+1h1,0m0+1h1,0m0+1h1,0m0+1h1,0m0+1h1,0m0+1h1"), 7);
        fault(",", 0);
        fault(",0m0+1h1", 0);
        fault("0m0+1h1,", 8);
        fault("0m0+1h1,,0m0+1h1", 8);
        fault("0m0+1h10m0+1h1", 8);
        fault("0m0+1h20m0+1h1", 7);
    }

    private static void fullTexts() {
        CHECKS.terms("a text of at most 60 characters");
        CHECKS.due("the full text's length", Rings.FULL_TEXT.length(), 60);
        MachineRing ring = withSixMachines();
        CHECKS.due("seven bookings in 60", Rings.bookText(ring, Rings.FULL_TEXT), 7);
        CHECKS.dueRow("machines", booking -> ring.booking(booking, 1), 0, 1, 2, 3, 4, 5, 1, Rings.UNKNOWN);
        CHECKS.dueRow("farmers", booking -> ring.booking(booking, 0), 0, 1, 2, 3, 4, 5, 0, Rings.UNKNOWN);
        CHECKS.dueRow("days", booking -> ring.booking(booking, 2), 10, 10, 10, 10, 10, 1, 1, Rings.UNKNOWN);
        String six = "0m0+10h1,0m0+11h1,0m0+12h1,0m0+13h1,0m0+14h1,0m0+15h1,";
        fault(six + "0m0+1", 59);
        fault(six + "0m0+1h", 60);
        fault(six + "0m0+1x", 59);
        String seven = "0m0+1h1,0m0+1h1,0m0+1h1,0m0+1h1,0m0+1h1,0m0+1h1,0m0+1h1";
        CHECKS.due("seven bookings in 55", bookAll(seven), 7);
        fault(seven + ",", 56);
        fault(seven + ",0", 57);
        fault(seven + ",0m0", 59);
        fault(seven + ",0m0+", 60);
        fault(seven + ",0m0-", 59);
        fault(seven + ",6m0+", 56);
        CHECKS.due("the 61st is not typed", bookAll(six + "0m0+1h1"), Rings.TEXT_FAULT - 60);
        CHECKS.due("nor does it spoil 60", Rings.bookText(withSixMachines(), Rings.FULL_TEXT + "x"), 7);
    }

    private static MachineRing withSixMachines() {
        MachineRing ring = Rings.fuelled();
        ring.buy(0, 0, 1);
        ring.buy(1, 1, 1);
        ring.buy(2, 2, 1);
        return ring;
    }

    // ---- promise 9

    private static void bookAllStays() {
        CHECKS.promise(9, "Makes the bookings of the text, which stays, one after the other");
        MachineRing ring = Rings.fuelled();
        CHECKS.due("bookAll()", Rings.bookText(ring, "5m2+99h12,0m0+1h1"), 2);
        CHECKS.dueRow("booking 0", what -> ring.booking(0, what), 5, 2, 99, 12, 0);
        CHECKS.dueRow("booking 1", what -> ring.booking(1, what), 0, 0, 1, 1, 0);
        CHECKS.due("the length of the text", ring.count(14), 17);
        CHECKS.due("again", ring.bookAll(), Rings.NOT_POSSIBLE);
        CHECKS.due("the length of the text", ring.count(14), 17);
        ring.takeBack(0);
        CHECKS.due("once more", ring.bookAll(), 2);
        CHECKS.dueRow("booking 2", what -> ring.booking(2, what), 5, 2, 99, 12, 0);
        ring.pass(1);
        ring.takeBack(2);
        CHECKS.due("on another day", ring.bookAll(), 2);
        CHECKS.due("its day", ring.booking(4, 2), 100);
        CHECKS.due("more may be typed behind it", ring.type('x'), 18);
        CHECKS.due("which is its fault then", ring.bookAll(), Rings.TEXT_FAULT - 17);
    }

    private static void refused(String text, int want) {
        CHECKS.refused(() -> Rings.busy(text), "bookAll() of '" + text + "'", want, r -> r.bookAll());
    }

    private static void bookAllOrNone() {
        CHECKS.promise(9, "all of them, or none");
        refused("0m3+1h1,0m2+3h1", Rings.NOT_POSSIBLE);
        refused("0m2+3h1,0m3+1h1", Rings.NOT_POSSIBLE);
        refused("0m3+1h1,0m3+3h1,0m3+4h1,0m3+5h1,0m3+6h1,0m4+1h1", Rings.UNKNOWN);
        refused("0m4+1h1,0m3+1h1", Rings.UNKNOWN);
        refused("0m3+1h1,0m3+1h1x", Rings.TEXT_FAULT - 15);
        refused("0m3+1h1,", Rings.TEXT_FAULT - 8);
        refused("", Rings.TEXT_FAULT);
        CHECKS.isAct(() -> Rings.busy("0m3+1h1,0m2+4h1,0m1+1h12"), "all of three", 3, r -> r.bookAll());
    }

    private static void bookAllIsOneAct() {
        CHECKS.promise(9, "This is one act");
        MachineRing ring = Rings.fuelled();
        ring.undo();
        int states = ring.count(13);
        CHECKS.due("seven", Rings.bookText(ring, "0m0+1h1,0m0+1h1,0m0+1h1,0m0+1h1,0m0+1h1,0m0+1h1,0m0+1h1"), 7);
        CHECKS.due("a state more", ring.count(13), states + 1);
        CHECKS.due("undo()", ring.undo(), states);
        CHECKS.due("none of the seven is left", ring.count(3), 0);
        CHECKS.due("nor counted", ring.count(4), 0);
        CHECKS.due("the text stays", ring.count(14), 55);
        CHECKS.refused(Rings::full, "a full history drops nothing when it is refused", Rings.FULL, r -> r.bookAll());
    }

    /** A ring with bookings of 12 hours of the tractor for the next days. */
    private static MachineRing with(int bookings, String text) {
        MachineRing ring = Rings.fuelled();
        for (int n = 0; n < bookings; n++) {
            ring.book(n % 6, 0, n + 1, 12);
        }
        Rings.write(ring, text);
        return ring;
    }

    private static void errorsOfBookAll() {
        CHECKS.promise(9, "-100000100 minus the fault of the text if it has one (which is an error)");
        refused("x", -100000100);
        refused("0x", -100000101);
        CHECKS.refused(() -> with(30, "0m0+1h13"), "ahead of FULL", -100000107, r -> r.bookAll());
        CHECKS.refused(() -> with(0, "0m5+1h13"), "ahead of UNKNOWN", -100000107, r -> r.bookAll());
        CHECKS.refused(() -> with(1, "0m0+1h1,x"), "ahead of NOT_POSSIBLE", -100000108, r -> r.bookAll());

        CHECKS.promise(9, "otherwise the error that book() returns for the first one that has one when its turn comes");
        CHECKS.refused(() -> with(0, "0m2+99h12,0m3+1h1"), "UNKNOWN", Rings.UNKNOWN, r -> r.bookAll());
        CHECKS.refused(() -> with(0, "0m1+5h6,0m1+5h7"), "by the one ahead of it", Rings.NOT_POSSIBLE,
                r -> r.bookAll());
        CHECKS.due("6 and 6 are possible", with(0, "0m1+5h6,0m1+5h6").bookAll(), 2);
        CHECKS.refused(() -> with(30, "0m1+1h1"), "30 stand", Rings.FULL, r -> r.bookAll());
        CHECKS.refused(() -> with(29, "0m1+1h1,0m1+2h1"), "29 stand and one", Rings.FULL, r -> r.bookAll());
        CHECKS.due("29 stand", with(29, "0m1+1h1").bookAll(), 1);
        CHECKS.due("28 stand", with(28, "0m1+1h1,0m1+2h1").bookAll(), 2);
        CHECKS.refused(() -> with(29, "0m1+1h1,0m0+1h1"), "FULL ahead of NOT_POSSIBLE", Rings.FULL,
                r -> r.bookAll());
        CHECKS.refused(() -> with(29, "0m0+1h1,0m1+1h1"), "the first one's", Rings.NOT_POSSIBLE, r -> r.bookAll());
        CHECKS.refused(() -> with(1, "0m0+1h1,0m3+1h1"), "the first one's", Rings.NOT_POSSIBLE, r -> r.bookAll());
        CHECKS.refused(() -> with(1, "0m3+1h1,0m0+1h1"), "the first one's", Rings.UNKNOWN, r -> r.bookAll());
        CHECKS.refused(() -> with(29, "0m1+1h1,0m3+1h1"), "UNKNOWN ahead of FULL", Rings.UNKNOWN, r -> r.bookAll());

        CHECKS.promise(9, "Returns how many the text has");
        CHECKS.due("one", with(3, "0m1+1h1").bookAll(), 1);
        CHECKS.due("two, of 12 hours each", with(3, "0m1+1h12,0m1+2h12").bookAll(), 2);
    }

    // ---- promises 14 and 15

    private static void type() {
        CHECKS.promise(14, "character: any character");
        MachineRing ring = new MachineRing();
        char[] signs = {0, 1, '\n', ' ', '0', 'h', 127, 128, 255, 256, 0xd800, 0xfffe, 0xffff};
        for (int n = 0; n < signs.length; n++) {
            CHECKS.due("type " + (int) signs[n], ring.type(signs[n]), n + 1);
        }

        CHECKS.promise(14, "Types a character behind the text");
        MachineRing ordered = Rings.fuelled();
        Rings.write(ordered, "0m0+1h");
        CHECKS.due("ahead of it", ordered.bookAll(), Rings.TEXT_FAULT - 6);
        ordered.type('2');
        CHECKS.due("bookAll()", ordered.bookAll(), 1);
        ordered.type('1');
        CHECKS.due("behind it", ordered.bookAll(), Rings.TEXT_FAULT - 7);

        CHECKS.promise(14, "Returns the length of the text then; FULL if it has 60 characters");
        Rings.write(ring, "x".repeat(58));
        CHECKS.due("the 59th", ring.type('x'), 59);
        CHECKS.due("the 60th", ring.type('x'), 60);
        CHECKS.due("the 61st", ring.type('x'), Rings.FULL);
        CHECKS.due("the 62nd", ring.type('x'), Rings.FULL);
        CHECKS.refused(TextEdgesTests::withFullText, "a digit more", Rings.FULL, r -> r.type('2'));
        CHECKS.refused(Rings::full, "all is full", Rings.FULL, r -> r.type('1'));
        CHECKS.due("no act", ring.count(13), 0);
    }

    private static MachineRing withFullText() {
        return Rings.busy("0m3+10h1,1m3+11h1,2m3+12h1,3m3+13h1,4m3+14h1,5m3+1h1,0m1+1h1");
    }

    private static void clearText() {
        CHECKS.promise(15, "Returns the length that it had");
        MachineRing ring = Rings.fuelled();
        CHECKS.due("of none", ring.clearText(), 0);
        ring.type('0');
        CHECKS.due("of one", ring.clearText(), 1);
        CHECKS.due("of none", ring.clearText(), 0);
        Rings.write(ring, Rings.FULL_TEXT);
        CHECKS.due("of 60", ring.clearText(), 60);
        CHECKS.due("no act", ring.count(13), 4);

        CHECKS.promise(15, "Empties the text");
        CHECKS.due("count(14)", ring.count(14), 0);
        CHECKS.due("bookAll()", ring.bookAll(), Rings.TEXT_FAULT);
        CHECKS.due("there is room again", ring.type('0'), 1);
        CHECKS.due("nothing of the old text comes back", ring.bookAll(), Rings.TEXT_FAULT - 1);
        CHECKS.refused(() -> Rings.busy(""), "of none", 0, r -> r.clearText());
    }
}
