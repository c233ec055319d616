/** Promises 9 (the faults of texts), 14 and 15. */
public final class TextsTests {
    private static final Checks CHECKS = new Checks();

    public static void main(String[] args) {
        faults();
        faultsOfNumbers();
        faultsOfLongTexts();
        textsWithoutFault();
        type();
        clearText();
        CHECKS.end();
    }

    private static void faults() {
        CHECKS.begin("promise 9, faults");
        fault("", 0);
        fault("6m0+1h1", 0);
        fault("m0+1h1", 0);
        fault(",0m0+1h1", 0);
        fault(" 0m0+1h1", 0);
        fault("0", 1);
        fault("0M0+1h1", 1);
        fault("00m0+1h1", 1);
        fault("0m", 2);
        fault("0m6+1h1", 2);
        fault("0m/+1h1", 2);
        fault("0m0", 3);
        fault("0m0-1h1", 3);
        fault("0m0+1H1", 5);
        fault("0m0+1h1 ", 7);
        fault("0m0+1h1;0m0+1h1", 7);
        fault("0m0+1h1,", 8);
        fault("0m0+1h1,,", 8);
        fault("0m0+1h1,6", 8);
        fault("0m0+1h1, 0m0+1h1", 8);
        fault((char) 304 + "m0+1h1", 0);
        fault((char) 0 + "m0+1h1", 0);
        fault("0m0+1h" + (char) 0x661, 6);
        fault("0m0+1h1" + (char) 65535, 7);
    }

    private static void faultsOfNumbers() {
        CHECKS.begin("promise 9, faults of numbers");
        fault("0m0+", 4);
        fault("0m0+0h1", 4);
        fault("0m0+h1", 4);
        fault("0m0+01h1", 4);
        fault("0m0+:h1", 4);
        fault("0m0+1", 5);
        fault("0m0+1:h1", 5);
        fault("0m0+1/h1", 5);
        fault("0m0+1h1/", 7);
        fault("0m0+1,", 5);
        fault("0m0+99", 6);
        fault("0m0+100h1", 6);
        fault("0m0+999h1", 6);
        fault("0m0+99:", 6);
        fault("0m0+1h", 6);
        fault("0m0+1h0", 6);
        fault("0m0+1h01", 6);
        fault("0m0+1h,", 6);
        fault("0m0+1h13", 7);
        fault("0m0+1h20", 7);
        fault("0m0+1h21", 7);
        fault("0m0+1h99", 7);
        fault("0m0+1h1:", 7);
        fault("0m0+1h100", 8);
        fault("0m0+1h120", 8);
        fault("0m0+1h10h", 8);
        fault("0m0+10h12,5m5+99h13", 18);
    }

    private static void faultsOfLongTexts() {
        CHECKS.begin("promise 9, faults of long texts");
        String seven = "0m0+1h1,0m0+1h1,0m0+1h1,0m0+1h1,0m0+1h1,0m0+1h1,0m0+1h1";
        fault(seven + ",", 56);
        fault(seven + ",1", 57);
        fault(seven + ",1m5+", 60);
        fault(seven + ",1m6+", 58);
        fault(seven + ",6m5+", 56);
        fault(seven + "11", 56);
        fault("0m0+11h10,0m0+11h10,0m0+11h10,0m0+11h10,0m0+11h10,0m0+11h10,", 60);
    }

    private static void textsWithoutFault() {
        CHECKS.begin("promise 9, no faults");
        good("0m0+1h1", 1, 1, 1);
        good("0m0+9h9", 1, 9, 9);
        good("0m0+10h10", 1, 10, 10);
        good("0m0+19h11", 1, 19, 11);
        good("0m0+99h12", 1, 99, 12);
        good("5m2+90h12,5m2+91h12,5m2+92h12,5m2+93h12,5m2+94h12,0m2+9h12", 6, 90, 12);
        good("0m0+11h10,0m0+12h10,0m0+13h10,0m0+14h10,0m0+15h10,0m0+16h1", 6, 11, 10);
    }

    private static void fault(String text, int place) {
        MachineRing ring = Rings.fuelled();
        CHECKS.due("bookAll() of '" + text + "'", Rings.bookText(ring, text), Rings.TEXT_FAULT - place);
        CHECKS.due("bookings behind '" + text + "'", ring.count(3), 0);
        CHECKS.due("length behind '" + text + "'", ring.count(14), text.length());
    }

    private static void good(String text, int bookings, int firstDay, int firstHours) {
        MachineRing ring = Rings.fuelled();
        CHECKS.due("bookAll() of '" + text + "'", Rings.bookText(ring, text), bookings);
        CHECKS.due("bookings behind '" + text + "'", ring.count(3), bookings);
        CHECKS.due("first day of '" + text + "'", ring.booking(0, 2), firstDay);
        CHECKS.due("first hours of '" + text + "'", ring.booking(0, 3), firstHours);
    }

    private static void type() {
        CHECKS.begin("promise 14, type");
        MachineRing ring = new MachineRing();
        char[] any = {'0', 'z', 0, 255, 256, 65535};
        for (int n = 1; n <= 60; n++) {
            CHECKS.due("type " + n, ring.type(any[n % any.length]), n);
        }
        CHECKS.due("type 61", ring.type('0'), Rings.FULL);
        CHECKS.due("count(14)", ring.count(14), 60);
        CHECKS.due("no act", ring.count(13), 0);
        CHECKS.refused("type() too far", Rings.FULL, r -> {
            Rings.write(r, "a".repeat(67));
            int answer = r.type('a');
            Rings.write(r, "0m3+1h1");
            return answer;
        });
        MachineRing kept = Rings.busy();
        int states = kept.count(13);
        kept.pay(0, 1);
        kept.type(',');
        kept.undo();
        CHECKS.due("undo() leaves the text", kept.count(14), 8);
        kept.restore();
        CHECKS.due("restore() leaves the text", kept.count(14), 8);
        CHECKS.due("count(13)", kept.count(13), states + 1);
        Rings.write(kept, "0m3+1h1");
        CHECKS.due("in the order of typing", kept.bookAll(), 1);
        CHECKS.due("booking(5, 1)", kept.booking(5, 1), 3);
    }

    private static void clearText() {
        CHECKS.begin("promise 15, clearText");
        MachineRing ring = Rings.fuelled();
        CHECKS.due("clearText() of none", ring.clearText(), 0);
        Rings.write(ring, "0m0+1h1");
        CHECKS.due("clearText()", ring.clearText(), 7);
        CHECKS.due("count(14)", ring.count(14), 0);
        CHECKS.due("bookAll()", ring.bookAll(), Rings.TEXT_FAULT);
        CHECKS.due("type()", ring.type('0'), 1);
        CHECKS.due("nothing is left of the old text", ring.bookAll(), Rings.TEXT_FAULT - 1);
        Rings.write(ring, "x".repeat(60));
        CHECKS.due("clearText() of 60", ring.clearText(), 60);
        CHECKS.due("no act", ring.count(13), 4);
        CHECKS.due("type()", ring.type('0'), 1);
    }
}
