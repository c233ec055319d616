import java.util.function.ToIntFunction;

/** Counts the answers that are not the ones due, and prints them under the name of what was tested. */
final class Checks {
    private String part = "";
    private int made = 0;
    private int wrong = 0;

    void begin(String name) {
        part = name;
    }

    void due(String call, long got, long want) {
        made++;
        if (got != want) {
            tell(call + " answered " + got + ", due is " + want);
        }
    }

    void dueFloat(String call, float got, float want) {
        made++;
        if (Float.floatToIntBits(got) != Float.floatToIntBits(want)) {
            tell(call + " answered " + got + ", due is " + want);
        }
    }

    void holds(String what, boolean is) {
        made++;
        if (!is) {
            tell(what + ": does not hold");
        }
    }

    /** What a call tells of number 0, 1, 2 .. (as farmer(0, 0), farmer(0, 1) .. do). */
    void dueRow(String call, ToIntFunction<Integer> told, int... wanted) {
        for (int what = 0; what < wanted.length; what++) {
            due(call + " of " + what, told.applyAsInt(what), wanted[what]);
        }
    }

    /** A call that answers an error or NONE changes nothing. */
    void refused(MachineRing ring, String call, int want, ToIntFunction<MachineRing> done) {
        String before = Rings.picture(ring);
        due(call, done.applyAsInt(ring), want);
        holds(call + " changes nothing", before.equals(Rings.picture(ring)));
    }

    void refused(String call, int want, ToIntFunction<MachineRing> done) {
        refused(Rings.busy(), call, want, done);
    }

    /** An act records the state that was before it, and no other. */
    void isAct(MachineRing ring, String call, int want, ToIntFunction<MachineRing> done) {
        String before = Rings.picture(ring);
        int states = ring.count(13);
        due(call, done.applyAsInt(ring), want);
        due("states behind " + call, ring.count(13), states + 1);
        due("undo() behind " + call, ring.undo(), states);
        holds(call + " is undone", before.equals(Rings.picture(ring)));
    }

    void isAct(String call, int want, ToIntFunction<MachineRing> done) {
        isAct(Rings.busy(), call, want, done);
    }

    private void tell(String text) {
        wrong++;
        if (wrong <= 50) {
            System.out.println(part + ": " + text);
        }
    }

    /** Ends the program, as .ci/run goes by its exit code. */
    void end() {
        System.out.println(made + " answers looked at, " + wrong + " of them not as due");
        System.exit(wrong == 0 && made > 0 ? 0 : 1);
    }
}
