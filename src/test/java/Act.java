import java.util.List;
import java.util.function.ToIntFunction;

/** A call of a method that a promise describes as an act. */
record Act(int promise, String call, ToIntFunction<MachineRing> done) {

    /** Each act, as it succeeds for Rings.busy(). */
    static List<Act> all() {
        return List.of(
                new Act(2, "buy()", r -> r.buy(1, 1, 1)),
                new Act(3, "license()", r -> r.license(0, 7)),
                new Act(4, "setRate()", r -> r.setRate(0, 1)),
                new Act(5, "fill()", r -> r.fill(0, 0, 1)),
                new Act(6, "mend()", r -> r.mend(0)),
                new Act(7, "pay()", r -> r.pay(0, 1)),
                new Act(8, "book()", r -> r.book(0, 1, 1, 1)),
                new Act(9, "bookAll()", r -> r.bookAll()),
                new Act(10, "takeBack()", r -> r.takeBack(3)),
                new Act(11, "pass()", r -> r.pass(1)),
                new Act(12, "set()", r -> r.set(1, 1)),
                new Act(13, "setSeed()", r -> r.setSeed(1)),
                new Act(18, "restore()", r -> r.restore()));
    }

    /** Each act that has arguments, as it is refused by Rings.busy() and Rings.full(), and three with NONE. */
    static List<Act> refused() {
        return List.of(
                new Act(2, "buy()", r -> r.buy(0, 0, 100)),
                new Act(3, "license()", r -> r.license(5, 8)),
                new Act(3, "license() of what is so already", r -> r.license(5, 1)),
                new Act(4, "setRate()", r -> r.setRate(0, 0)),
                new Act(5, "fill()", r -> r.fill(0, 0, 501)),
                new Act(6, "mend()", r -> r.mend(6)),
                new Act(6, "mend() of what is not broken", r -> r.mend(1)),
                new Act(7, "pay()", r -> r.pay(0, 0)),
                new Act(8, "book()", r -> r.book(0, 0, 1, 13)),
                new Act(10, "takeBack()", r -> r.takeBack(99)),
                new Act(11, "pass()", r -> r.pass(61)),
                new Act(12, "set()", r -> r.set(0, 9)),
                new Act(13, "setSeed()", r -> r.setSeed(10000)),
                new Act(13, "setSeed() of what is so already", r -> r.setSeed(r.count(11))));
    }
}
