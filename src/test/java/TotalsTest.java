import java.util.function.Function;

/** A test for each sentence of the promises 35 to 44, on both sides of each boundary that it names. */
final class TotalsTest {
    private static final Class<ArithmeticException> ARITHMETIC = ArithmeticException.class;

    private static final String NO_TRIP_YET = "Throws `ArithmeticException` if there was no such trip";

    private TotalsTest() { }

    public static void main(String[] args) throws ReflectiveOperationException {
        Probe.run(TotalsTest.class);
    }

    @Says(promise = 35, value = "Returns the cents that have been loaded so far.")
    static void loadedTotal(Probe p) {
        MetroFares x = Metros.with("ff");
        p.same("nothing", 0, x.loadedTotal());
        x.load(0, 1);
        x.load(1, 9999);
        x.load(1, 9999);
        p.same("both cards", 19999, x.loadedTotal());
        p.refused("refused", UnsupportedOperationException.class, () -> x.load(1, 3));
        p.same("both cards", 19999, x.loadedTotal());
        Metros.ride(x, 0, 0, 0);
        p.same("charges don't count", 19999, x.loadedTotal());
        x.undo();
        x.undo();
        x.undo();
        p.same("undone", 10000, x.loadedTotal());
    }

    @Says(promise = 36, value = "Returns the cents that have been charged so far, without regard to payments back.")
    static void chargedTotal(Probe p) {
        MetroFares x = Metros.with("fr");
        p.same("nothing", 0, x.chargedTotal());
        Metros.ride(x, 0, 0, 0);
        p.same("tap out", 200, x.chargedTotal());
        x.tapIn(1, 0);
        x.tapIn(1, 0);
        p.same("in again", 425, x.chargedTotal());
        x.repair(1, 0);
        p.same("paid back", 425, x.chargedTotal());
        x.advance(180);
        p.same("180 minutes", 650, x.chargedTotal());
        Metros.passTo(x, 4320);
        Metros.ride(x, 0, 0, 0);
        p.same("on another day", 850, x.chargedTotal());
    }

    @Says(promise = 37, value = "Returns the cents that have been paid back so far.")
    static void paidBackTotal(Probe p) {
        MetroFares x = Metros.with("fr");
        p.same("nothing", 0, x.paidBackTotal());
        x.tapIn(0, 0);
        x.tapIn(1, 0);
        x.advance(180);
        p.same("incomplete", 0, x.paidBackTotal());
        x.repair(0, 11);
        p.same("nothing is paid back", 0, x.paidBackTotal());
        x.repair(1, 9);
        p.same("25", 25, x.paidBackTotal());
        x.tapIn(1, 0);
        x.advance(180);
        x.repair(1, 0);
        p.same("50 more: the cap has left 150", 75, x.paidBackTotal());
    }

    @Says(promise = 38, value = "Returns the number of complete trips so far.")
    static void completeTrips(Probe p) {
        MetroFares x = Metros.with("fr");
        x.tapIn(0, 0);
        p.same("on a trip", 0, x.completeTrips());
        x.tapOut(0, 0);
        p.same("complete", 1, x.completeTrips());
        Metros.ride(x, 1, 0, 0);
        p.same("the other card", 2, x.completeTrips());
        x.tapIn(1, 3);
        x.tapIn(1, 3);
        x.repair(1, 3);
        p.same("a repaired one is not complete", 2, x.completeTrips());
    }

    @Says(promise = 39, value = "Returns the number of incomplete trips so far.")
    static void incompleteTrips(Probe p) {
        MetroFares x = Metros.with("fr");
        x.tapIn(0, 0);
        x.tapIn(1, 0);
        x.advance(179);
        p.same("on their trips", 0, x.incompleteTrips());
        x.tapOut(0, 0);
        x.advance(1);
        p.same("180 minutes", 1, x.incompleteTrips());
        x.tapIn(0, 0);
        x.tapIn(0, 0);
        p.same("in again", 2, x.incompleteTrips());
        x.repair(0, 0);
        p.same("a repaired one is incomplete", 2, x.incompleteTrips());
    }

    /** Complete trips, and then incomplete ones, with a complete one after each of these; fares are 1 cent. */
    private static MetroFares trips(int complete, int incomplete) {
        MetroFares x = Metros.with("f");
        x.setFares(1, 0);
        for (int i = 0; i < complete; i++) {
            Metros.ride(x, 0, 0, 0);
        }
        for (int i = 0; i < incomplete; i++) {
            x.tapIn(0, 0);
            x.tapIn(0, 0);
            x.tapOut(0, 0);
        }
        return x;
    }

    @Says(promise = 40, value = "Returns the mean charge of all complete and incomplete trips: the charged cents divided by "
            + "the number of these trips, both converted to double.")
    static void meanCharge(Probe p) {
        p.same("one trip", 1.0, trips(1, 0).meanCharge());
        MetroFares x = Metros.with("f");
        x.setFares(0, 0);
        Metros.ride(x, 0, 0, 0);
        p.same("0 cents", 0.0, x.meanCharge());
        x.setFares(1, 0);
        x.tapIn(0, 5);
        x.tapIn(0, 5);
        p.same("1 cent, 2 trips", 0.5, x.meanCharge());
        x.tapOut(0, 5);
        p.same("2 cents, 3 trips", 2.0 / 3.0, x.meanCharge());
        x.setFares(0, 0);
        x.repair(0, 5);
        p.same("payments back don't count", 2.0 / 3.0, x.meanCharge());
        x.tapIn(0, 0);
        p.same("a trip that goes on doesn't count", 2.0 / 3.0, x.meanCharge());
        x.setFares(700, 0);
        x.advance(180);
        p.same("the cap counts", 2.0 / 4.0 + 699.0 / 4.0, x.meanCharge());
    }

    @Says(promise = 41, value = "Returns the result of Double.doubleToLongBits for the mean charge.")
    static void meanChargeBits(Probe p) {
        for (int base : new int[] {0, 1, 2, 3, 7, 199, 200, 349, 511, 512, 513, 699}) {
            MetroFares x = Metros.with("f");
            x.load(0, 2000);
            x.setFares(base, 0);
            Metros.ride(x, 0, 0, 0);
            x.setFares(0, 0);
            for (int trips = 1; trips < 40; trips++) {
                long due = Double.doubleToLongBits((double) base / (double) trips);
                p.same(base + " / " + trips, due, x.meanChargeBits());
                p.same(base + " / " + trips, due, Double.doubleToLongBits(x.meanCharge()));
                Metros.ride(x, 0, 11, 11);
            }
        }
    }

    @Says(promise = 42, value = "Returns the share of incomplete trips among complete and incomplete trips, both numbers "
            + "converted to float.")
    static void incompleteShare(Probe p) {
        p.same("none", 0.0f, trips(3, 0).incompleteShare());
        p.same("3 of 6", 0.5f, trips(0, 3).incompleteShare());
        p.same("2 of 7", 2.0f / 7.0f, trips(3, 2).incompleteShare());
        MetroFares x = Metros.with("f");
        x.tapIn(0, 0);
        x.tapIn(0, 0);
        p.same("all", 1.0f, x.incompleteShare());
        x.repair(0, 0);
        p.same("a repaired one is incomplete", 1.0f, x.incompleteShare());
        x.tapOut(0, 0);
        p.same("1 of 2", 0.5f, x.incompleteShare());
    }

    @Says(promise = 43, value = "Returns the result of Float.floatToIntBits for the share.")
    static void incompleteShareBits(Probe p) {
        for (int incomplete = 0; incomplete < 7; incomplete++) {
            MetroFares x = Metros.with("f");
            x.setFares(0, 0);
            x.tapIn(0, 0);
            for (int i = 0; i < incomplete; i++) {
                x.tapIn(0, 0);
            }
            x.tapOut(0, 0);
            for (int trips = incomplete + 1; trips < 60; trips++) {
                int due = Float.floatToIntBits((float) incomplete / (float) trips);
                p.same(incomplete + " / " + trips, due, x.incompleteShareBits());
                p.same(incomplete + " / " + trips, due, Float.floatToIntBits(x.incompleteShare()));
                Metros.ride(x, 0, 0, 0);
            }
        }
        MetroFares x = Metros.with("f");
        x.tapIn(0, 0);
        x.advance(180);
        p.same("all", Float.floatToIntBits(1.0f), x.incompleteShareBits());
    }

    private static void onlyAfterTrip(Probe p, Function<MetroFares, Object> call) {
        p.refused("new", MetroFares::new, ARITHMETIC, call);
        p.refused("on the first trip", () -> {
            MetroFares x = Metros.with("f");
            x.tapIn(0, 0);
            x.advance(179);
            return x;
        }, ARITHMETIC, call);
        MetroFares complete = Metros.with("f");
        Metros.ride(complete, 0, 0, 0);
        p.same("complete", false, Check.answerOf(() -> call.apply(complete)).startsWith("throws"));
        MetroFares incomplete = Metros.with("f");
        incomplete.tapIn(0, 0);
        incomplete.advance(180);
        p.same("incomplete", false, Check.answerOf(() -> call.apply(incomplete)).startsWith("throws"));
        p.refused("undone", () -> {
            MetroFares x = Metros.with("f");
            Metros.ride(x, 0, 0, 0);
            x.undo();
            return x;
        }, ARITHMETIC, call);
    }

    @Says(promise = 40, value = NO_TRIP_YET)
    static void meanOfNone(Probe p) {
        onlyAfterTrip(p, MetroFares::meanCharge);
    }

    @Says(promise = 41, value = NO_TRIP_YET)
    static void meanBitsOfNone(Probe p) {
        onlyAfterTrip(p, MetroFares::meanChargeBits);
    }

    @Says(promise = 42, value = NO_TRIP_YET)
    static void shareOfNone(Probe p) {
        onlyAfterTrip(p, MetroFares::incompleteShare);
    }

    @Says(promise = 43, value = NO_TRIP_YET)
    static void shareBitsOfNone(Probe p) {
        onlyAfterTrip(p, MetroFares::incompleteShareBits);
    }

    /** What isConsistent looks at, asked for by the other calls. */
    private static boolean holds(MetroFares x) {
        boolean holds = true;
        int sum = 0;
        for (int from = 0; from < 12; from++) {
            for (int to = 0; to < 12; to++) {
                holds &= x.zoneCount(from, to) == x.zoneCountByComparing(from, to);
            }
        }
        for (int card = 0; card < x.cardCount(); card++) {
            sum += x.balance(card);
            for (int day = Math.max(x.day() - 2, 0); day <= x.day(); day++) {
                holds &= x.chargedOn(card, day) == x.chargedOnByRecords(card, day);
                holds &= x.chargedOn(card, day) <= (x.isReduced(card) ? 350 : 700);
            }
        }
        return holds && sum == x.loadedTotal() - x.chargedTotal() + x.paidBackTotal();
    }

    @Says(promise = 44, value = "Checks the state: both ways to count zones agree for all pairs of stations, both ways to "
            + "compute what has been charged agree for all cards and the present day and up to 2 days before, nothing of "
            + "this is greater than the cap, and the balances of all cards are the loaded cents minus the charged ones "
            + "plus those paid back.")
    static void checkedState(Probe p) {
        MetroFares[] states = {
            new MetroFares(), Metros.busy(), Metros.with("frfrfrfr"), Metros.atBalance(-699).get(),
            Metros.atBalance(-700).get(), Metros.chargedDaily(0), Metros.chargedDaily(2), Metros.chargedDaily(3),
        };
        for (int i = 0; i < states.length; i++) {
            p.same("state " + i, true, states[i].isConsistent());
            p.same("state " + i + " by the other calls", true, holds(states[i]));
        }
    }

    @Says(promise = 44, value = "Returns true if all of this holds.")
    static void isConsistent(Probe p) {
        isInconsistent(p);
        p.same("new", true, new MetroFares().isConsistent());
        p.same("busy", true, Metros.busy().isConsistent());
        p.same("at the cap", true, Metros.atBalance(-700).get().isConsistent());
        MetroFares x = Metros.chargedDaily(5);
        p.same("days ago", true, x.isConsistent());
        x.tapIn(0, 0);
        x.tapIn(1, 3);
        x.advance(180);
        p.same("incomplete", true, x.isConsistent());
        x.setFares(0, 0);
        x.repair(0, 0);
        x.repair(1, 0);
        p.same("repaired", true, x.isConsistent());
        Metros.pass(x, 2880);
        p.same("two days later", true, x.isConsistent());
        x.undo();
        x.undo();
        x.undo();
        p.same("undone", true, x.isConsistent());
        for (String zones : Metros.ZONES) {
            p.same("zones " + zones, true, Metros.zoned(zones).isConsistent());
        }
    }

    private static void broken(Probe p, String path, int number, boolean due) {
        MetroFares x = Metros.chargedDaily(5);
        p.same("whole", true, x.isConsistent());
        Inside.add(x, path, number);
        p.same("with " + number + " more at " + path, due, x.isConsistent());
        Inside.add(x, path, -number);
        p.same("mended", true, x.isConsistent());
    }

    /** The other side of isConsistent, which no calls can reach. */
    private static void isInconsistent(Probe p) {
        for (int number : new int[] {-1, 1}) {
            broken(p, "now.cards.0.cents", number, false);
            broken(p, "now.cards.1.cents", number, false);
            broken(p, "now.cards.2.cents", number, true);
            broken(p, "now.loaded", number, false);
            broken(p, "now.charged", number, false);
            broken(p, "now.paidBack", number, false);
            broken(p, "now.complete", number, true);
            for (int place = 0; place < 3; place++) {
                broken(p, "now.cards.0.sums." + place, number, false);
            }
        }
        for (int station = 0; station < 12; station++) {
            broken(p, "now.line.zones." + station, 32, false);
        }
        for (int cents : new int[] {349, 350, 351}) {
            MetroFares x = Metros.atBalance(-cents).get();
            Inside.set(x, "now.cards.0.reduced", true);
            p.same(cents + " charged to a reduced card", cents <= 350, x.isConsistent());
            Metros.pass(x, 2880);
            p.same(cents + " charged 2 days ago", cents <= 350, x.isConsistent());
            Metros.pass(x, 1440);
            p.same(cents + " charged 3 days ago", true, x.isConsistent());
        }
    }
}
