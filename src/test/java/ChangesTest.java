import java.util.NoSuchElementException;

/** A test for each sentence of the promises 1 to 9, on both sides of each boundary that it names. */
final class ChangesTest {
    private static final Class<IllegalArgumentException> ARGUMENT = IllegalArgumentException.class;
    private static final Class<IllegalStateException> STATE = IllegalStateException.class;
    private static final Class<NoSuchElementException> ELEMENT = NoSuchElementException.class;
    private static final Class<UnsupportedOperationException> UNSUPPORTED = UnsupportedOperationException.class;

    private static final String NO_CARD = "Throws `IndexOutOfBoundsException` if there is no such card";
    private static final String NO_STATION = "Throws `IndexOutOfBoundsException` if there is no such station";
    private static final String NO_CARD_OR_STATION = NO_CARD + " or no such station";

    private ChangesTest() { }

    public static void main(String[] args) throws ReflectiveOperationException {
        Probe.run(ChangesTest.class);
    }

    @Says(promise = 1, value = "Creates a fare system without cards at time 0.")
    static void newObject(Probe p) {
        Metros.busy();
        MetroFares x = new MetroFares();
        p.same("cards", 0, x.cardCount());
        p.same("time", 0, x.time());
        p.same("everything", "time 0 fares 200 50 totals 0 0 0 trips 0 0 cards zones 450 1", View.brief(x));
        p.refused("nothing to undo", ELEMENT, x::undo);
        p.refused("no snapshot", STATE, x::restore);
        p.refused("no output", IndexOutOfBoundsException.class, () -> x.outputAt(0));
        p.same("no script", 1, x.type('a'));
    }

    // ---- issueCard

    @Says(promise = 2, value = "Issues a card.")
    static void issueCard(Probe p) {
        MetroFares x = Metros.with("r");
        p.same("one", 1, x.cardCount());
        p.same("reduced", true, x.isReduced(0));
        x.issueCard(false);
        p.same("two", 2, x.cardCount());
        p.same("full", false, x.isReduced(1));
        p.same("the first stays", true, x.isReduced(0));
    }

    @Says(promise = 2, value = "Returns the index of the card.")
    static void issuedIndex(Probe p) {
        MetroFares x = new MetroFares();
        for (int card = 0; card < 8; card++) {
            p.same("index", card, x.issueCard(card % 2 == 0));
        }
    }

    @Says(promise = 2, value = "Throws `IllegalStateException` if there are 8 cards")
    static void ninthCard(Probe p) {
        p.refused("full card", () -> Metros.with("frfrfrfr"), STATE, x -> x.issueCard(false));
        p.refused("reduced card", () -> Metros.with("frfrfrfr"), STATE, x -> x.issueCard(true));
        p.same("7 cards", "7", Check.answerOf(() -> Metros.with("frfrfrf").issueCard(false)));
    }

    // ---- load

    @Says(promise = 3, value = "Loads a card.")
    static void load(Probe p) {
        MetroFares x = Metros.with("fr");
        x.load(1, 70);
        p.same("the card", 70, x.balance(1));
        p.same("not the other", 0, x.balance(0));
        p.same("the total", 70, x.loadedTotal());
    }

    @Says(promise = 3, value = "Returns the balance after the call.")
    static void loadedBalance(Probe p) {
        MetroFares x = Metros.atBalance(-300).get();
        p.same("below 0", -1, x.load(0, 299));
        p.same("0", 0, x.load(0, 1));
        p.same("above 0", 1, x.load(0, 1));
    }

    @Says(promise = 3, value = NO_CARD)
    static void loadNoCard(Probe p) {
        p.takesCards((x, card) -> x.load(card, 1));
    }

    @Says(promise = 3, value = "Throws `IllegalArgumentException` if the number of cents is not between 1 and 9999")
    static void loadCents(Probe p) {
        for (int cents : new int[] {0, -1, 10000, 10001, Integer.MIN_VALUE, Integer.MAX_VALUE}) {
            p.refusedWhenBusy("cents " + cents, ARGUMENT, x -> x.load(0, cents));
        }
        for (int cents : new int[] {1, 2, 9998, 9999}) {
            p.same("cents " + cents, "" + cents, Check.answerOf(() -> Metros.with("f").load(0, cents)));
        }
    }

    private static MetroFares withBalance(int cents) {
        MetroFares x = Metros.with("f");
        for (int left = cents; left > 0; left -= 9999) {
            x.load(0, Math.min(left, 9999));
        }
        return x;
    }

    @Says(promise = 3, value = "Throws `UnsupportedOperationException` if the balance would be greater than 20000")
    static void loadAboveLimit(Probe p) {
        int[][] above = {{20000, 1}, {19999, 2}, {10002, 9999}, {19995, 6}, {20000, 9999}};
        for (int[] load : above) {
            p.refused(load[0] + " and " + load[1], () -> withBalance(load[0]), UNSUPPORTED, x -> x.load(0, load[1]));
            p.same(load[0] + " and " + load[1], true, load[0] + load[1] > 20000);
        }
        int[][] within = {{19999, 1}, {19998, 2}, {10001, 9999}, {19998, 1}};
        for (int[] load : within) {
            p.same(load[0] + " and " + load[1], load[0] + load[1], withBalance(load[0]).load(0, load[1]));
        }
        p.refused("above 20000 before", () -> {
            MetroFares x = withBalance(0);
            x.tapIn(0, 0);
            x.tapIn(0, 0);
            x.load(0, 9999);
            x.load(0, 9999);
            x.load(0, 452);
            x.repair(0, 0);
            return x;
        }, UNSUPPORTED, x -> x.load(0, 1));
    }

    // ---- tapIn

    @Says(promise = 4, value = "Taps a card in.")
    static void tapIn(Probe p) {
        MetroFares x = Metros.with("ff");
        x.tapIn(1, 11);
        p.same("on its trip", true, x.isOnTrip(1));
        p.same("from there", 11, x.tripStart(1));
        p.same("not the other", false, x.isOnTrip(0));
        p.same("a tap", 1, x.taps(11));
        p.same("no charge", 0, x.chargedTotal());
    }

    @Says(promise = 4, value = "Returns true if the new trip continues a journey.")
    static void tapInContinues(Probe p) {
        MetroFares x = Metros.with("f");
        x.load(0, 2000);
        p.same("first trip", false, x.tapIn(0, 3));
        x.tapOut(0, 4);
        x.advance(15);
        p.same("transfer", true, x.tapIn(0, 4));
        x.tapOut(0, 4);
        x.advance(16);
        p.same("too late", false, x.tapIn(0, 4));
        x.tapOut(0, 4);
        p.same("elsewhere", false, x.tapIn(0, 5));
        p.same("on a trip", false, x.tapIn(0, 5));
    }

    @Says(promise = 4, value = NO_CARD_OR_STATION)
    static void tapInNowhere(Probe p) {
        p.takesCards((x, card) -> x.tapIn(card, 3));
        p.takesStations((x, station) -> x.tapIn(1, station));
    }

    @Says(promise = 4, value = "Throws `IllegalStateException` if the balance is less than -500")
    static void tapInTooPoor(Probe p) {
        for (int cents : new int[] {-501, -502, -700}) {
            p.refused("at " + cents, Metros.atBalance(cents), STATE, x -> x.tapIn(0, 0));
        }
        for (int cents : new int[] {-500, -499, -1, 0}) {
            MetroFares x = Metros.atBalance(cents).get();
            p.same("balance", cents, x.balance(0));
            p.same("at " + cents, "true", Check.answerOf(() -> x.tapIn(0, 0)));
        }
        p.refused("on a trip", () -> {
            MetroFares x = Metros.with("f");
            x.setFares(501, 0);
            x.tapIn(0, 3);
            x.tapIn(0, 4);
            return x;
        }, STATE, x -> x.tapIn(0, 5));
    }

    // ---- tapOut

    @Says(promise = 5, value = "Taps a card out.")
    static void tapOut(Probe p) {
        MetroFares x = Metros.with("ff");
        x.tapIn(0, 0);
        x.tapIn(1, 0);
        x.tapOut(1, 3);
        p.same("off", false, x.isOnTrip(1));
        p.same("not the other", true, x.isOnTrip(0));
        p.same("a tap", 1, x.taps(3));
        p.same("complete", 1, x.completeTrips());
    }

    @Says(promise = 5, value = "Returns the cents that are charged.")
    static void tapOutCharge(Probe p) {
        MetroFares x = Metros.with("fr");
        p.same("full", 450, Metros.ride(x, 0, 0, 11));
        p.same("transfer for nothing", 0, Metros.ride(x, 0, 11, 10));
        p.same("reduced", 225, Metros.ride(x, 1, 11, 0));
        p.same("under the cap", 125, Metros.ride(x, 1, 5, 8));
        p.same("at the cap", 0, Metros.ride(x, 1, 5, 8));
        p.same("balances", -450 - 350, x.balance(0) + x.balance(1));
    }

    @Says(promise = 5, value = NO_CARD_OR_STATION)
    static void tapOutNowhere(Probe p) {
        p.takesCards((x, card) -> x.tapOut(card, 3));
        p.takesStations((x, station) -> x.tapOut(1, station));
    }

    @Says(promise = 5, value = "Throws `IllegalStateException` if the card is not on a trip")
    static void tapOutOffTrip(Probe p) {
        p.refused("new", () -> Metros.with("ff"), STATE, x -> x.tapOut(0, 0));
        p.refusedWhenBusy("after a complete trip", STATE, x -> x.tapOut(0, 5));
        p.refused("after 180 minutes", () -> afterTapIn(180), STATE, x -> x.tapOut(0, 0));
        p.same("after 179 minutes", "200", Check.answerOf(() -> afterTapIn(179).tapOut(0, 0)));
        p.same("at once", "200", Check.answerOf(() -> Metros.ride(Metros.with("f"), 0, 0, 0)));
    }

    private static MetroFares afterTapIn(int minutes) {
        MetroFares x = Metros.with("f");
        x.tapIn(0, 0);
        x.advance(minutes);
        return x;
    }

    // ---- repair

    @Says(promise = 6, value = "Repairs the latest incomplete trip of a card.")
    static void repair(Probe p) {
        MetroFares x = Metros.with("ff");
        x.tapIn(1, 2);
        x.tapIn(0, 0);
        x.tapIn(0, 11);
        x.tapIn(1, 2);
        x.repair(0, 0);
        p.same("the card", -200, x.balance(0));
        p.same("not the other", -450, x.balance(1));
        p.same("the other can be", true, x.isRepairable(1));
        p.same("the present trip goes on", 11, x.tripStart(0));
        p.same("no tap", 1, x.taps(0));
        p.same("still incomplete", 2, x.incompleteTrips());
        p.same("not complete", 0, x.completeTrips());
    }

    @Says(promise = 6, value = "Returns the cents that are paid back.")
    static void repairedCents(Probe p) {
        for (int station = 0; station < 12; station++) {
            MetroFares x = afterTapIn(180);
            p.same("to " + station, 250 - 50 * (station / 2), x.repair(0, station));
            p.same("to " + station, 250 - 50 * (station / 2), x.paidBackTotal());
        }
    }

    @Says(promise = 6, value = NO_CARD_OR_STATION)
    static void repairNowhere(Probe p) {
        p.takesCards((x, card) -> x.repair(card, 3));
        p.takesStations((x, station) -> x.repair(1, station));
    }

    @Says(promise = 6, value = "Throws `NoSuchElementException` if the card had no incomplete trip, or the latest one has "
            + "been repaired")
    static void repairNothing(Probe p) {
        p.refused("new", () -> Metros.with("f"), ELEMENT, x -> x.repair(0, 0));
        p.refusedWhenBusy("complete trips only", ELEMENT, x -> x.repair(0, 0));
        p.refused("the present trip", () -> afterTapIn(179), ELEMENT, x -> x.repair(0, 0));
        p.same("a minute later", "250", Check.answerOf(() -> afterTapIn(180).repair(0, 0)));
        p.refused("repaired", () -> {
            MetroFares x = afterTapIn(180);
            x.repair(0, 0);
            return x;
        }, ELEMENT, x -> x.repair(0, 0));
        MetroFares x = afterTapIn(180);
        x.repair(0, 0);
        x.undo();
        p.same("the repair is undone", "250", Check.answerOf(() -> x.repair(0, 0)));
        x.tapIn(0, 6);
        x.advance(180);
        p.same("the next incomplete trip", "250", Check.answerOf(() -> x.repair(0, 6)));
    }

    @Says(promise = 6, value = "Throws `IllegalStateException` if the day is more than 2 days after the day of the "
            + "incomplete trip")
    static void repairTooLate(Probe p) {
        for (int minute : new int[] {4320, 5000, 6000}) {
            p.refused("at " + minute, () -> {
                MetroFares x = afterTapIn(180);
                Metros.passTo(x, minute);
                return x;
            }, STATE, x -> x.repair(0, 0));
        }
        for (int minute : new int[] {180, 1440, 2880, 4319}) {
            MetroFares x = afterTapIn(180);
            Metros.passTo(x, minute);
            p.same("at " + minute, "250", Check.answerOf(() -> x.repair(0, 0)));
        }
        MetroFares x = Metros.with("f");
        x.advance(1259);
        x.tapIn(0, 0);
        Metros.passTo(x, 4320);
        p.refused("charged at 1439", STATE, () -> x.repair(0, 0));
        MetroFares y = Metros.with("f");
        y.advance(1260);
        y.tapIn(0, 0);
        Metros.passTo(y, 4320);
        p.same("charged at 1440", "250", Check.answerOf(() -> y.repair(0, 0)));
    }

    // ---- setZone and setFares

    @Says(promise = 7, value = "Sets the zone of a station.")
    static void setZone(Probe p) {
        MetroFares x = new MetroFares();
        x.setZone(3, 6);
        p.same("the zones", "112633445566", Metros.output(x, x.renderZones()));
        p.same("the station", 6, x.zone(3));
        p.same("not the next", 3, x.zone(4));
        p.same("not the one before", 2, x.zone(2));
    }

    @Says(promise = 7, value = "Returns the previous zone.")
    static void previousZone(Probe p) {
        MetroFares x = new MetroFares();
        p.same("initial", 6, x.setZone(11, 1));
        p.same("changed", 1, x.setZone(11, 4));
        p.same("the same", 4, x.setZone(11, 4));
        p.same("the same", 4, x.setZone(11, 5));
    }

    @Says(promise = 7, value = NO_STATION)
    static void setZoneNowhere(Probe p) {
        p.takesStations((x, station) -> x.setZone(station, 1));
    }

    @Says(promise = 7, value = "Throws `IllegalArgumentException` if the zone is not between 1 and 6")
    static void zoneNumbers(Probe p) {
        for (int zone : new int[] {0, 7, -1, 8, Integer.MIN_VALUE, Integer.MAX_VALUE}) {
            p.refusedWhenBusy("zone " + zone, ARGUMENT, x -> x.setZone(11, zone));
        }
        for (int zone = 1; zone <= 6; zone++) {
            int number = zone;
            p.same("zone " + zone, "1", Check.answerOf(() -> new MetroFares().setZone(0, number)));
        }
    }

    @Says(promise = 8, value = "Sets the base fare and the zone fare.")
    static void setFares(Probe p) {
        MetroFares x = new MetroFares();
        x.setFares(70, 8);
        p.same("base fare", 70, x.baseFare());
        p.same("zone fare", 8, x.zoneFare());
        p.same("fare", 78, x.fare(0, 2));
    }

    @Says(promise = 8, value = "Returns the previous base fare.")
    static void previousBaseFare(Probe p) {
        MetroFares x = new MetroFares();
        p.same("initial", 200, x.setFares(0, 99));
        p.same("changed", 0, x.setFares(999, 0));
        p.same("changed", 999, x.setFares(999, 1));
    }

    @Says(promise = 8, value = "Throws `IllegalArgumentException` if the base fare is not between 0 and 999, or the zone "
            + "fare is not between 0 and 99")
    static void fareLimits(Probe p) {
        int[][] wrong = {
            {-1, 50}, {1000, 50}, {Integer.MIN_VALUE, 50}, {Integer.MAX_VALUE, 50}, {200, -1}, {200, 100},
            {200, Integer.MIN_VALUE}, {200, Integer.MAX_VALUE}, {-1, -1}, {1000, 100},
        };
        for (int[] fares : wrong) {
            p.refusedWhenBusy(fares[0] + " " + fares[1], ARGUMENT, x -> x.setFares(fares[0], fares[1]));
        }
        int[][] right = {{0, 0}, {999, 99}, {0, 99}, {999, 0}, {1, 1}, {998, 98}};
        for (int[] fares : right) {
            MetroFares x = new MetroFares();
            p.same(fares[0] + " " + fares[1], "200", Check.answerOf(() -> x.setFares(fares[0], fares[1])));
            p.same("fare", fares[0] + 5 * fares[1], x.fare(0, 11));
        }
    }

    // ---- advance

    @Says(promise = 9, value = "Lets time pass, minute by minute.")
    static void advance(Probe p) {
        MetroFares once = Metros.with("frf");
        MetroFares often = Metros.with("frf");
        for (MetroFares x : new MetroFares[] {once, often}) {
            x.advance(1259);
            for (int card = 0; card < 3; card++) {
                x.tapIn(card, card);
                x.advance(1);
            }
        }
        p.same("at once", 3, once.advance(300));
        int ended = 0;
        for (int i = 0; i < 300; i++) {
            ended += often.advance(1);
        }
        p.same("in steps", 3, ended);
        p.same("the time", 1262 + 300, once.time());
        p.same("the same", View.of(once), View.of(often));
        p.same("each at its minute", 450, once.chargedOn(0, 0));
        p.same("each at its minute", 225, once.chargedOn(1, 1));
        p.same("each at its minute", 450, once.chargedOn(2, 1));
    }

    @Says(promise = 9, value = "Returns the number of trips that become incomplete.")
    static void advancedTrips(Probe p) {
        MetroFares x = Metros.with("ffffffff");
        p.same("no trips", 0, x.advance(2000));
        for (int card = 0; card < 8; card++) {
            x.tapIn(card, 0);
        }
        x.tapOut(4, 0);
        p.same("not yet", 0, x.advance(179));
        p.same("seven", 7, x.advance(1));
        p.same("not again", 0, x.advance(2000));
        for (int card = 0; card < 8; card++) {
            x.tapIn(card, 0);
            x.advance(10);
        }
        p.same("first two", 2, x.advance(110));
        p.same("other six", 6, x.advance(2000));
    }

    @Says(promise = 9, value = "Throws `IllegalArgumentException` if the number of minutes is not between 1 and 2000")
    static void advanceLimits(Probe p) {
        for (int minutes : new int[] {0, -1, 2001, Integer.MIN_VALUE, Integer.MAX_VALUE}) {
            p.refusedWhenBusy("minutes " + minutes, ARGUMENT, x -> x.advance(minutes));
        }
        for (int minutes : new int[] {1, 2, 1999, 2000}) {
            MetroFares x = new MetroFares();
            p.same("minutes " + minutes, "0", Check.answerOf(() -> x.advance(minutes)));
            p.same("time", minutes, x.time());
        }
    }
}
