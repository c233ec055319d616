import java.util.Random;

/** Runs of 512 calls by chance (with written seeds), each answer beside that of PlainRing. */
public final class ModelTests {
    private static final int RUNS = 3000;
    private static final int CALLS = 512;
    private static final int[] WILD = {Integer.MIN_VALUE, Integer.MIN_VALUE + 1, -100000005, -1, 0, 1, 2, 3, 5, 6, 7,
        8, 12, 13, 17, 18, 60, 61, 99, 100, 200, 201, 500, 501, 9999, 10000, 65536, Integer.MAX_VALUE - 1,
        Integer.MAX_VALUE};
    private static final String SIGNS = "0123456789mh+,mh+,mh+,0123 :/M";

    private static final Checks CHECKS = new Checks();

    private final Random chance;
    private final MachineRing ring = new MachineRing();
    private final PlainRing plain = new PlainRing();
    /** How many calls of a hundred have an argument from anywhere. */
    private final int wildness;
    private final boolean texts;
    private final boolean longPasses;
    private final boolean manyUndos;
    private String toType = "";
    private int calls = 0;

    private ModelTests(int seed) {
        chance = new Random(seed);
        wildness = seed % 4 == 0 ? 30 : 2;
        texts = seed % 3 == 0;
        longPasses = seed % 5 == 1;
        manyUndos = seed % 5 == 2;
    }

    public static void main(String[] args) {
        for (int seed = 0; seed < RUNS; seed++) {
            CHECKS.begin("run " + seed);
            new ModelTests(seed).run();
        }
        CHECKS.end();
    }

    private void run() {
        if (chance.nextInt(8) > 0) {
            begin();
        }
        while (calls < CALLS - 1) {
            if (!toType.isEmpty()) {
                typeOne();
            } else if (manyUndos && chance.nextInt(4) == 0) {
                actSeldom(16);
            } else if (chance.nextInt(10) < 6) {
                act(chance.nextInt(texts ? 20 : 17));
            } else {
                tell(chance.nextInt(11));
            }
        }
    }

    private void begin() {
        for (int n = 0; n < 8; n++) {
            int kind = chance.nextInt(3);
            int rate = from(1, 99);
            due("buy(" + kind + ", " + kind + ", " + rate + ")", ring.buy(kind, kind, rate),
                    plain.buy(kind, kind, rate));
        }
        int breaks = from(10, 60);
        due("set(0, " + breaks + ")", ring.set(0, breaks), plain.set(0, breaks));
    }

    private int from(int lowest, int highest) {
        return chance.nextInt(100) < wildness ? WILD[chance.nextInt(WILD.length)]
                : lowest + chance.nextInt(highest - lowest + 1);
    }

    private int aFarmer() {
        return from(0, 5);
    }

    private int aMachine() {
        return from(0, Math.max(0, plain.count(2) - 1));
    }

    private int aBooking() {
        int made = plain.count(4);
        return from(Math.max(0, made - 20), made);
    }

    private void due(String call, int got, int want) {
        calls++;
        CHECKS.due("call " + calls + ": " + call, got, want);
    }

    private void act(int which) {
        switch (which) {
            case 0 -> {
                int kind = from(0, 2);
                int shed = chance.nextInt(4) == 0 ? from(0, 2) : kind;
                int rate = from(1, 99);
                due("buy(" + kind + ", " + shed + ", " + rate + ")", ring.buy(kind, shed, rate),
                        plain.buy(kind, shed, rate));
            }
            case 1 -> {
                int farmer = aFarmer();
                int kinds = from(0, 7);
                due("license(" + farmer + ", " + kinds + ")", ring.license(farmer, kinds),
                        plain.license(farmer, kinds));
            }
            case 2 -> {
                int machine = aMachine();
                int rate = from(1, 99);
                due("setRate(" + machine + ", " + rate + ")", ring.setRate(machine, rate),
                        plain.setRate(machine, rate));
            }
            case 3, 4 -> {
                int farmer = aFarmer();
                int machine = aMachine();
                int litres = from(1, chance.nextBoolean() ? 100 : 500);
                due("fill(" + farmer + ", " + machine + ", " + litres + ")", ring.fill(farmer, machine, litres),
                        plain.fill(farmer, machine, litres));
            }
            case 5, 6 -> {
                int machine = aMachine();
                due("mend(" + machine + ")", ring.mend(machine), plain.mend(machine));
            }
            case 7 -> {
                int farmer = aFarmer();
                int coins = from(1, 9999);
                due("pay(" + farmer + ", " + coins + ")", ring.pay(farmer, coins), plain.pay(farmer, coins));
            }
            case 8, 9, 10, 11 -> bookOne();
            case 12, 13 -> {
                int days = from(1, longPasses || chance.nextInt(10) == 0 ? 60 : 4);
                due("pass(" + days + ")", ring.pass(days), plain.pass(days));
            }
            default -> actSeldom(which);
        }
    }

    private void bookOne() {
        int farmer = aFarmer();
        int machine = aMachine();
        int in = from(1, chance.nextInt(10) == 0 ? 99 : 8);
        int hours = from(1, 12);
        due("book(" + farmer + ", " + machine + ", " + in + ", " + hours + ")",
                ring.book(farmer, machine, in, hours), plain.book(farmer, machine, in, hours));
    }

    private void actSeldom(int which) {
        int kind = chance.nextInt(6);
        switch (which) {
            case 14 -> {
                int booking = aBooking();
                due("takeBack(" + booking + ")", ring.takeBack(booking), plain.takeBack(booking));
            }
            case 15 -> {
                int setting = from(0, 1);
                int value = setting == 0 ? from(8, chance.nextBoolean() ? 30 : 202) : from(0, 9999);
                if (kind == 0) {
                    due("set(" + setting + ", " + value + ")", ring.set(setting, value), plain.set(setting, value));
                } else if (kind == 1) {
                    due("setSeed(" + value + ")", ring.setSeed(value), plain.setSeed(value));
                }
            }
            case 16 -> {
                if (kind < 3) {
                    due("undo()", ring.undo(), plain.undo());
                } else if (kind == 3) {
                    due("keep()", ring.keep(), plain.keep());
                } else if (kind == 4) {
                    due("restore()", ring.restore(), plain.restore());
                } else {
                    due("bookAll()", ring.bookAll(), plain.bookAll());
                }
            }
            case 17 -> {
                due("clearText()", ring.clearText(), plain.clearText());
                toType = aText();
            }
            default -> due("bookAll()", ring.bookAll(), plain.bookAll());
        }
    }

    private void typeOne() {
        char sign = toType.charAt(0);
        toType = toType.substring(1);
        due("type(" + (int) sign + ")", ring.type(sign), plain.type(sign));
        if (toType.isEmpty()) {
            due("bookAll()", ring.bookAll(), plain.bookAll());
        }
    }

    /** Of bookings, but in one of three texts with a sign that is another one, is too much or is missing. */
    private String aText() {
        StringBuilder made = new StringBuilder();
        int most = chance.nextInt(4) == 0 ? 8 : 3;
        for (int n = 1 + chance.nextInt(most); n > 0; n--) {
            made.append(chance.nextInt(6)).append('m').append(chance.nextInt(Math.max(1, plain.count(2))));
            made.append('+').append(1 + chance.nextInt(chance.nextBoolean() ? 9 : 99));
            made.append('h').append(1 + chance.nextInt(chance.nextBoolean() ? 4 : 12)).append(',');
        }
        made.setLength(made.length() - 1);
        if (chance.nextInt(3) == 0) {
            int at = chance.nextInt(made.length());
            char sign = SIGNS.charAt(chance.nextInt(SIGNS.length()));
            switch (chance.nextInt(3)) {
                case 0 -> made.setCharAt(at, sign);
                case 1 -> made.insert(at, sign);
                default -> made.deleteCharAt(at);
            }
        }
        return made.toString();
    }

    private void tell(int which) {
        int machine = aMachine();
        int farmer = aFarmer();
        int in = from(0, chance.nextInt(5) == 0 ? 100 : 10);
        switch (which) {
            case 0, 1 -> {
                int what = from(0, 6);
                due("farmer(" + farmer + ", " + what + ")", ring.farmer(farmer, what), plain.farmer(farmer, what));
            }
            case 2, 3 -> {
                int what = from(0, 7);
                due("machine(" + machine + ", " + what + ")", ring.machine(machine, what),
                        plain.machine(machine, what));
            }
            case 4 -> due("fuel(" + machine + ")", Float.floatToIntBits(ring.fuel(machine)),
                    Float.floatToIntBits(plain.fuel(machine)));
            case 5 -> due("hours(" + machine + ", " + farmer + ")", ring.hours(machine, farmer),
                    plain.hours(machine, farmer));
            case 6 -> {
                int booking = aBooking();
                int what = from(0, 5);
                due("booking(" + booking + ", " + what + ")", ring.booking(booking, what),
                        plain.booking(booking, what));
            }
            case 7 -> due("booked(" + machine + ", " + in + ")", ring.booked(machine, in), plain.booked(machine, in));
            case 8 -> due("wet(" + in + ")", ring.wet(in), plain.wet(in));
            case 9 -> {
                due("most(" + machine + ")", ring.most(machine), plain.most(machine));
                due("lasts(" + machine + ")", ring.lasts(machine), plain.lasts(machine));
            }
            default -> {
                int what = from(0, 17);
                due("count(" + what + ")", ring.count(what), plain.count(what));
            }
        }
    }
}
