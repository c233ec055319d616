import java.util.function.Supplier;
import java.util.function.ToIntFunction;

/** Counts the answers that are not the ones due, and prints them under the name of what was tested. */
final class Checks {
    private final Document document = new Document();
    private String part = "";
    private int made = 0;
    private int wrong = 0;

    void begin(String name) {
        part = name;
    }

    /** Begins a test of a sentence of the document's 'Terms'. */
    void terms(String words) {
        begin("Terms: '" + words + "'");
        holds("the document says so", document.says(Document.TERMS, words));
    }

    /** Begins a test of a sentence of a promise. */
    void promise(int number, String words) {
        begin("promise " + number + ": '" + words + "'");
        holds("the document says so", document.says(number, words));
    }

    void due(String call, long got, long want) {
        made++;
        if (got != want) {
            tell(call + " answered " + got + ", due is " + want);
        }
    }

    void dueFloat(String call, float got, float want) {
        made++;
        if (Float.floatToIntBits(got) != Float.floatToIntBits(want)) {
            tell(call + " answered " + got + ", due is " + want);
        }
    }

    void holds(String what, boolean is) {
        made++;
        if (!is) {
            tell(what + ": does not hold");
        }
    }

    /** What a call tells of number 0, 1, 2 .. (as farmer(0, 0), farmer(0, 1) .. do). */
    void dueRow(String call, ToIntFunction<Integer> told, int... wanted) {
        for (int what = 0; what < wanted.length; what++) {
            due(call + " of " + what, told.applyAsInt(what), wanted[what]);
        }
    }

    /** A call that answers an error or NONE changes nothing: not the history, the snapshot or the text either. */
    void refused(Supplier<MachineRing> maker, String call, int want, ToIntFunction<MachineRing> done) {
        due(call, done.applyAsInt(maker.get()), want);
        for (int look = 0; look < Rings.LOOKS; look++) {
            MachineRing ring = maker.get();
            done.applyAsInt(ring);
            holds(call + " changes nothing (look " + look + ")",
                    Rings.look(maker.get(), look).equals(Rings.look(ring, look)));
        }
    }

    void refused(String call, int want, ToIntFunction<MachineRing> done) {
        refused(Rings::busy, call, want, done);
    }

    /** An act records the state that was before it, and no other: for a ring with room in its history. */
    void isAct(Supplier<MachineRing> maker, String call, int want, ToIntFunction<MachineRing> done) {
        for (int look = 0; look < Rings.LOOKS; look++) {
            MachineRing ring = maker.get();
            int states = ring.count(13);
            due(call, done.applyAsInt(ring), want);
            due("states behind " + call, ring.count(13), states + 1);
            due("undo() behind " + call, ring.undo(), states);
            holds(call + " is undone (look " + look + ")",
                    Rings.look(maker.get(), look).equals(Rings.look(ring, look)));
        }
    }

    void isAct(String call, int want, ToIntFunction<MachineRing> done) {
        isAct(Rings::busy, call, want, done);
    }

    private void tell(String text) {
        wrong++;
        if (wrong <= 50) {
            System.out.println(part + ": " + text);
        }
    }

    /** Ends the program, as .ci/run goes by its exit code. */
    void end() {
        System.out.println(made + " answers looked at, " + wrong + " of them not as due");
        System.exit(wrong == 0 && made > 0 ? 0 : 1);
    }
}
