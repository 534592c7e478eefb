import java.util.NoSuchElementException;
import java.util.function.Function;
import java.util.function.Supplier;

/** A test for each sentence of the promises 21 to 34, on both sides of each boundary that it names. */
final class CardsTest {
    private static final Class<IllegalArgumentException> ARGUMENT = IllegalArgumentException.class;
    private static final Class<NoSuchElementException> ELEMENT = NoSuchElementException.class;

    private static final String NO_CARD = "Throws `IndexOutOfBoundsException` if there is no such card";
    private static final String NO_CARD_OR_STATION = NO_CARD + " or no such station";
    private static final String NOT_ON_TRIP = "Throws `NoSuchElementException` if the card is not on a trip";
    private static final String NO_RECENT_DAY = "Throws `IllegalArgumentException` if it is neither the present day nor one "
            + "of the 2 days before, or it is negative";
    private static final String NO_RANK = "Throws `NoSuchElementException` if there is no such rank";

    private CardsTest() { }

    public static void main(String[] args) throws ReflectiveOperationException {
        Probe.run(CardsTest.class);
    }

    @Says(promise = 21, value = "Returns the number of cards.")
    static void cardCount(Probe p) {
        MetroFares x = new MetroFares();
        for (int count = 0; count < 8; count++) {
            p.same("count", count, x.cardCount());
            x.issueCard(false);
        }
        p.same("count", 8, x.cardCount());
        p.refused("a ninth", IllegalStateException.class, () -> x.issueCard(false));
        p.same("count", 8, x.cardCount());
        x.undo();
        p.same("undone", 7, x.cardCount());
    }

    @Says(promise = 22, value = "Returns whether a card is reduced.")
    static void isReduced(Probe p) {
        MetroFares x = Metros.with("frfrrffr");
        for (int card = 0; card < 8; card++) {
            p.same("card " + card, "frfrrffr".charAt(card) == 'r', x.isReduced(card));
        }
    }

    @Says(promise = 22, value = NO_CARD)
    static void isReducedNoCard(Probe p) {
        p.takesCards(MetroFares::isReduced);
    }

    @Says(promise = 23, value = "Returns the balance of a card.")
    static void balance(Probe p) {
        MetroFares x = Metros.with("ff");
        p.same("at first", 0, x.balance(0));
        x.load(0, 9999);
        p.same("loaded", 9999, x.balance(0));
        p.same("not the other", 0, x.balance(1));
    }

    @Says(promise = 23, value = "Returns the balance, which may be negative.")
    static void negativeBalance(Probe p) {
        for (int cents : new int[] {0, -1, -500, -501, -700}) {
            p.same("balance", cents, Metros.atBalance(cents).get().balance(0));
        }
    }

    @Says(promise = 23, value = NO_CARD)
    static void balanceNoCard(Probe p) {
        p.takesCards(MetroFares::balance);
    }

    private static MetroFares onTrip() {
        MetroFares x = Metros.with("ff");
        x.load(0, 2000);
        Metros.ride(x, 0, 2, 7);
        x.advance(15);
        x.tapIn(0, 7);
        return x;
    }

    @Says(promise = 24, value = "Returns whether a card is on a trip.")
    static void isOnTrip(Probe p) {
        MetroFares x = Metros.with("ff");
        x.load(0, 2000);
        p.same("new", false, x.isOnTrip(0));
        x.tapIn(0, 0);
        p.same("in", true, x.isOnTrip(0));
        p.same("not the other", false, x.isOnTrip(1));
        x.tapIn(0, 0);
        p.same("in again", true, x.isOnTrip(0));
        x.tapOut(0, 0);
        p.same("out", false, x.isOnTrip(0));
        x.tapIn(0, 0);
        x.advance(179);
        p.same("179 minutes", true, x.isOnTrip(0));
        x.advance(1);
        p.same("180 minutes", false, x.isOnTrip(0));
    }

    @Says(promise = 24, value = NO_CARD)
    static void isOnTripNoCard(Probe p) {
        p.takesCards(MetroFares::isOnTrip);
    }

    private static void onlyOnTrip(Probe p, Function<MetroFares, Object> call) {
        p.refused("new", () -> Metros.with("f"), ELEMENT, call);
        p.refusedWhenBusy("after a complete trip", ELEMENT, call);
        p.refused("after 180 minutes", () -> {
            MetroFares x = onTrip();
            x.advance(180);
            return x;
        }, ELEMENT, call);
        MetroFares x = onTrip();
        x.advance(179);
        p.same("after 179 minutes", false, Check.answerOf(() -> call.apply(x)).startsWith("throws"));
        p.same("at once", false, Check.answerOf(() -> call.apply(onTrip())).startsWith("throws"));
    }

    @Says(promise = 25, value = "Returns the station where the present trip of a card began.")
    static void tripStart(Probe p) {
        p.same("after a transfer", 7, onTrip().tripStart(0));
        MetroFares x = Metros.with("ff");
        x.tapIn(0, 11);
        x.tapIn(1, 0);
        p.same("first card", 11, x.tripStart(0));
        p.same("second card", 0, x.tripStart(1));
        x.tapIn(0, 4);
        p.same("in again", 4, x.tripStart(0));
    }

    @Says(promise = 25, value = NO_CARD)
    static void tripStartNoCard(Probe p) {
        p.takesCards(MetroFares::tripStart);
    }

    @Says(promise = 25, value = NOT_ON_TRIP)
    static void tripStartOffTrip(Probe p) {
        onlyOnTrip(p, x -> x.tripStart(0));
    }

    @Says(promise = 26, value = "Returns the station where the journey of the present trip of a card began.")
    static void journeyStart(Probe p) {
        MetroFares x = onTrip();
        p.same("after a transfer", 2, x.journeyStart(0));
        x.tapOut(0, 9);
        x.tapIn(0, 9);
        p.same("after two", 2, x.journeyStart(0));
        x.tapIn(0, 9);
        p.same("in again", 9, x.journeyStart(0));
        x.tapOut(0, 5);
        x.tapIn(0, 4);
        p.same("elsewhere", 4, x.journeyStart(0));
    }

    @Says(promise = 26, value = NO_CARD)
    static void journeyStartNoCard(Probe p) {
        p.takesCards(MetroFares::journeyStart);
    }

    @Says(promise = 26, value = NOT_ON_TRIP)
    static void journeyStartOffTrip(Probe p) {
        onlyOnTrip(p, x -> x.journeyStart(0));
    }

    @Says(promise = 27, value = "Returns after how many minutes the present trip of a card becomes incomplete.")
    static void minutesLeft(Probe p) {
        MetroFares x = onTrip();
        p.same("at once", 180, x.minutesLeft(0));
        x.advance(1);
        p.same("a minute later", 179, x.minutesLeft(0));
        x.advance(178);
        p.same("at last", 1, x.minutesLeft(0));
        x.tapIn(0, 7);
        p.same("in again", 180, x.minutesLeft(0));
        p.same("just before", 0, x.advance(x.minutesLeft(0) - 1));
        p.same("then", 1, x.advance(x.minutesLeft(0)));
    }

    @Says(promise = 27, value = NO_CARD)
    static void minutesLeftNoCard(Probe p) {
        p.takesCards(MetroFares::minutesLeft);
    }

    @Says(promise = 27, value = NOT_ON_TRIP)
    static void minutesLeftOffTrip(Probe p) {
        onlyOnTrip(p, x -> x.minutesLeft(0));
    }

    @Says(promise = 28, value = "Returns whether a tap in now would continue a journey.")
    static void wouldContinue(Probe p) {
        for (int minutes : new int[] {0, 1, 14, 15, 16, 17, 1440}) {
            for (int station = 0; station < 12; station++) {
                MetroFares x = Metros.with("f");
                Metros.ride(x, 0, 2, 7);
                Metros.pass(x, minutes);
                boolean would = x.wouldContinue(0, station);
                p.same(station + " after " + minutes, minutes <= 15 && station == 7, would);
                p.same(station + " after " + minutes, would, x.tapIn(0, station));
            }
        }
        p.same("new", false, Metros.with("f").wouldContinue(0, 0));
        MetroFares x = Metros.with("ff");
        Metros.ride(x, 0, 2, 7);
        p.same("another card", false, x.wouldContinue(1, 7));
    }

    @Says(promise = 28, value = "Returns true if it would; false also for a card that is on a trip.")
    static void wouldContinueOnTrip(Probe p) {
        MetroFares x = Metros.with("f");
        x.load(0, 2000);
        Metros.ride(x, 0, 2, 7);
        p.same("off", true, x.wouldContinue(0, 7));
        x.tapIn(0, 7);
        for (int station = 0; station < 12; station++) {
            p.same("on a trip", false, x.wouldContinue(0, station));
        }
        x.tapIn(0, 7);
        p.same("in again", false, x.wouldContinue(0, 7));
        x.tapOut(0, 7);
        p.same("off again", true, x.wouldContinue(0, 7));
        x.tapIn(0, 7);
        x.advance(180);
        p.same("incomplete", false, x.wouldContinue(0, 7));
    }

    @Says(promise = 28, value = NO_CARD_OR_STATION)
    static void wouldContinueNowhere(Probe p) {
        p.takesCards((x, card) -> x.wouldContinue(card, 5));
        p.takesStations((x, station) -> x.wouldContinue(0, station));
        p.takesStations((x, station) -> x.wouldContinue(x.cardCount() > 1 ? 1 : 0, station));
    }

    @Says(promise = 29, value = "Returns what would be charged if a card tapped out now.")
    static void chargeIfTappedOut(Probe p) {
        for (int station = 0; station < 12; station++) {
            MetroFares x = Metros.with("fr");
            x.tapIn(0, 4);
            x.tapIn(1, 4);
            p.same("first trip", 200 + 50 * Math.abs(station / 2 - 2), x.chargeIfTappedOut(0, station));
            p.same("reduced", 100 + 25 * Math.abs(station / 2 - 2), x.chargeIfTappedOut(1, station));
            p.same("nothing is charged", 0, x.chargedTotal());
            p.same("the same", x.chargeIfTappedOut(0, station), x.tapOut(0, station));
            MetroFares y = onTrip();
            int zones = Math.abs(station / 2 - 1) + 1;
            p.same("journey from 2, 300 before", Math.max(50 * (zones - 3), 0), y.chargeIfTappedOut(0, station));
            y.setFares(999, 0);
            p.same("cap, 300 before", 400, y.chargeIfTappedOut(0, station));
            y.setFares(700, 0);
            p.same("cap, 300 before", 400, y.chargeIfTappedOut(0, station));
            y.setFares(699, 0);
            p.same("below the cap", 399, y.chargeIfTappedOut(0, station));
        }
    }

    @Says(promise = 29, value = NO_CARD_OR_STATION)
    static void chargeIfTappedOutNowhere(Probe p) {
        p.takesCards((x, card) -> x.chargeIfTappedOut(card, 5));
        p.takesStations((x, station) -> x.chargeIfTappedOut(0, station));
        for (int station : new int[] {-1, 12}) {
            p.refused("on a trip: " + station, CardsTest::onTrip, Probe.INDEX, x -> x.chargeIfTappedOut(0, station));
        }
    }

    @Says(promise = 29, value = NOT_ON_TRIP)
    static void chargeIfTappedOutOffTrip(Probe p) {
        onlyOnTrip(p, x -> x.chargeIfTappedOut(0, 0));
    }

    // ---- days and caps

    private static void chargedOn(Probe p, DayQuestion ask) {
        for (int lastDay = 0; lastDay <= 5; lastDay++) {
            MetroFares x = Metros.chargedDaily(lastDay);
            for (int day = Math.max(lastDay - 2, 0); day <= lastDay; day++) {
                p.same("day " + day + " on day " + lastDay, 10 + day, ask.of(x, 0, day));
                p.same("another card", 0, ask.of(x, 1, day));
            }
            Metros.passTo(x, lastDay * 1440 + 1439);
            p.same("the last minute", 10 + lastDay, ask.of(x, 0, lastDay));
            x.advance(1);
            p.same("the next day", 0, ask.of(x, 0, lastDay + 1));
            p.same("the day before", 10 + lastDay, ask.of(x, 0, lastDay));
        }
        MetroFares x = Metros.with("f");
        Metros.ride(x, 0, 0, 0);
        x.tapIn(0, 6);
        x.tapIn(0, 9);
        p.same("two charges", 650, ask.of(x, 0, 0));
        Metros.passTo(x, 1440);
        p.same("the cap of the day", 700, ask.of(x, 0, 0));
        MetroFares y = Metros.with("f");
        y.load(0, 2000);
        Metros.ride(y, 0, 0, 0);
        y.tapIn(0, 6);
        y.tapIn(0, 9);
        y.tapOut(0, 9);
        Metros.passTo(y, 2880);
        Metros.ride(y, 0, 0, 0);
        p.same("before the repair", 700, ask.of(y, 0, 0));
        y.repair(0, 8);
        p.same("paid back for its day", 500, ask.of(y, 0, 0));
        p.same("not for another day", 0, ask.of(y, 0, 1));
        p.same("not for the day of the repair", 200, ask.of(y, 0, 2));
        y.undo();
        p.same("undone", 700, ask.of(y, 0, 0));
    }

    private interface DayQuestion {
        int of(MetroFares x, int card, int day);
    }

    private static void recentDays(Probe p, DayQuestion ask) {
        for (int today = 0; today <= 4; today++) {
            int present = today;
            Supplier<MetroFares> made = () -> Metros.chargedDaily(present);
            for (int day = -2; day <= today + 2; day++) {
                int asked = day;
                if (day >= 0 && day >= today - 2 && day <= today) {
                    MetroFares x = made.get();
                    p.same("day " + day + " on " + today, 10 + day, ask.of(x, 0, day));
                } else {
                    p.refused("day " + day + " on " + today, made, ARGUMENT, x -> ask.of(x, 0, asked));
                }
            }
        }
        for (int day : new int[] {Integer.MIN_VALUE, Integer.MAX_VALUE, Integer.MIN_VALUE + 1}) {
            p.refusedWhenBusy("day " + day, ARGUMENT, x -> ask.of(x, 0, day));
        }
    }

    @Says(promise = 30, value = "Returns what has been charged to a card on a day, less what has been paid back for it, "
            + "kept as a running sum.")
    static void chargedOn(Probe p) {
        chargedOn(p, MetroFares::chargedOn);
    }

    @Says(promise = 30, value = NO_CARD)
    static void chargedOnNoCard(Probe p) {
        p.takesCards((x, card) -> x.chargedOn(card, 0));
    }

    @Says(promise = 30, value = NO_RECENT_DAY)
    static void chargedOnNoDay(Probe p) {
        recentDays(p, MetroFares::chargedOn);
    }

    @Says(promise = 31, value = "Returns the same number as chargedOn, found by adding the records of charges and payments "
            + "of that day.")
    static void chargedOnByRecords(Probe p) {
        chargedOn(p, MetroFares::chargedOnByRecords);
    }

    @Says(promise = 31, value = NO_CARD)
    static void chargedOnByRecordsNoCard(Probe p) {
        p.takesCards((x, card) -> x.chargedOnByRecords(card, 0));
    }

    @Says(promise = 31, value = NO_RECENT_DAY)
    static void chargedOnByRecordsNoDay(Probe p) {
        recentDays(p, MetroFares::chargedOnByRecords);
    }

    @Says(promise = 32, value = "Returns what can still be charged to a card on the present day.")
    static void leftUnderCap(Probe p) {
        MetroFares x = Metros.with("fr");
        x.load(0, 5000);
        p.same("full", 700, x.leftUnderCap(0));
        p.same("reduced", 350, x.leftUnderCap(1));
        Metros.pay(x, 0, 699);
        p.same("1 left", 1, x.leftUnderCap(0));
        p.same("not the other", 350, x.leftUnderCap(1));
        x.setFares(200, 50);
        Metros.ride(x, 0, 5, 5);
        p.same("nothing left", 0, x.leftUnderCap(0));
        Metros.passTo(x, 1439);
        p.same("the same day", 0, x.leftUnderCap(0));
        x.advance(1);
        p.same("the next day", 700, x.leftUnderCap(0));
        x.tapIn(0, 0);
        p.same("on a trip", 700, x.leftUnderCap(0));
        x.tapIn(0, 0);
        p.same("incomplete", 250, x.leftUnderCap(0));
        x.repair(0, 0);
        p.same("repaired", 500, x.leftUnderCap(0));
        x.tapIn(0, 0);
        Metros.passTo(x, 2880);
        p.same("two days later", 700, x.leftUnderCap(0));
        x.repair(0, 0);
        p.same("repaired for a day before", 700, x.leftUnderCap(0));
    }

    @Says(promise = 32, value = NO_CARD)
    static void leftUnderCapNoCard(Probe p) {
        p.takesCards(MetroFares::leftUnderCap);
    }

    @Says(promise = 33, value = "Returns whether the latest incomplete trip of a card can be repaired now.")
    static void isRepairable(Probe p) {
        MetroFares x = Metros.with("ff");
        p.same("new", false, x.isRepairable(0));
        x.tapIn(0, 0);
        x.advance(179);
        p.same("179 minutes", false, x.isRepairable(0));
        x.advance(1);
        p.same("180 minutes", true, x.isRepairable(0));
        p.same("not the other", false, x.isRepairable(1));
        for (int minute : new int[] {1439, 1440, 2880, 4319}) {
            Metros.passTo(x, minute);
            p.same("at " + minute, true, x.isRepairable(0));
        }
        x.advance(1);
        p.same("at 4320", false, x.isRepairable(0));
        x.tapIn(0, 1);
        x.advance(180);
        p.same("the next one", true, x.isRepairable(0));
        x.repair(0, 1);
        p.same("repaired", false, x.isRepairable(0));
        x.undo();
        p.same("undone", true, x.isRepairable(0));
        Metros.ride(x, 1, 0, 0);
        p.same("complete", false, x.isRepairable(1));
    }

    @Says(promise = 33, value = NO_CARD)
    static void isRepairableNoCard(Probe p) {
        p.takesCards(MetroFares::isRepairable);
    }

    private static String cardsBySpending(MetroFares x) {
        StringBuilder text = new StringBuilder();
        for (int rank = 0; rank < x.cardCount(); rank++) {
            text.append(x.cardBySpending(rank));
        }
        return text.toString();
    }

    @Says(promise = 34, value = "Returns the card at a rank when cards are sorted by what has been charged on the present "
            + "day in descending order, then by balance in ascending order, then by index in ascending order.")
    static void cardBySpending(Probe p) {
        MetroFares x = Metros.with("ffff");
        p.same("by index", "0123", cardsBySpending(x));
        x.load(0, 1);
        p.same("by balance", "1230", cardsBySpending(x));
        x.load(1, 1);
        p.same("a tie of balances", "2301", cardsBySpending(x));
        x.load(1, 1);
        x.setFares(100, 0);
        Metros.ride(x, 1, 0, 0);
        p.same("by charges", "1230", cardsBySpending(x));
        x.load(3, 500);
        Metros.ride(x, 3, 0, 0);
        p.same("a tie of charges", "1320", cardsBySpending(x));
        x.setFares(101, 0);
        Metros.ride(x, 2, 0, 0);
        p.same("one cent more", "2130", cardsBySpending(x));
        Metros.passTo(x, 1440);
        p.same("the present day only", "2103", cardsBySpending(x));
        MetroFares y = Metros.with("ff");
        y.tapIn(1, 0);
        y.tapIn(1, 0);
        y.setFares(0, 0);
        y.load(1, 2000);
        p.same("charged", "10", cardsBySpending(y));
        y.repair(1, 0);
        p.same("paid back", "01", cardsBySpending(y));
    }

    @Says(promise = 34, value = "Returns the index of the card.")
    static void rankedIndex(Probe p) {
        for (int count = 1; count <= 8; count++) {
            MetroFares x = Metros.with("f".repeat(count));
            for (int card = 0; card < count; card++) {
                x.load(card, 100 - card);
            }
            for (int rank = 0; rank < count; rank++) {
                p.same("rank " + rank + " of " + count, count - 1 - rank, x.cardBySpending(rank));
            }
        }
    }

    @Says(promise = 34, value = NO_RANK)
    static void noCardRank(Probe p) {
        p.refused("rank 0 of none", MetroFares::new, ELEMENT, x -> x.cardBySpending(0));
        for (int rank : new int[] {-1, 3, 7, 8, Integer.MIN_VALUE, Integer.MAX_VALUE}) {
            p.refusedWhenBusy("rank " + rank, ELEMENT, x -> x.cardBySpending(rank));
        }
        p.refused("rank 8 of 8", () -> Metros.with("ffffffff"), ELEMENT, x -> x.cardBySpending(8));
        p.same("rank 0 of 1", 0, Metros.with("f").cardBySpending(0));
        p.same("rank 7 of 8", 7, Metros.with("ffffffff").cardBySpending(7));
    }
}
