import java.util.NoSuchElementException;

/** For each promise of the document: ordinary inputs, the edges it names, and wrong inputs. */
public final class PromiseTest {
    private static final Class<IndexOutOfBoundsException> INDEX = IndexOutOfBoundsException.class;
    private static final Class<IllegalArgumentException> ARGUMENT = IllegalArgumentException.class;
    private static final Class<IllegalStateException> STATE = IllegalStateException.class;
    private static final Class<NoSuchElementException> ELEMENT = NoSuchElementException.class;
    private static final Class<UnsupportedOperationException> UNSUPPORTED = UnsupportedOperationException.class;
    private static final Class<ArithmeticException> ARITHMETIC = ArithmeticException.class;
    private static final int[] WRONG_CARDS = {-1, 2, 8, Integer.MIN_VALUE, Integer.MAX_VALUE};
    private static final int[] WRONG_STATIONS = {-1, 12, Integer.MIN_VALUE, Integer.MAX_VALUE};

    private static final Check check = new Check();

    public static void main(String[] args) {
        newObject();
        issueCard();
        load();
        tapIn();
        tapInAgain();
        transfers();
        tapOut();
        journeyCharges();
        caps();
        repair();
        repairInTime();
        repairOrder();
        setZone();
        setFares();
        advance();
        expiry();
        timeAndDay();
        zonesAndCounts();
        fares();
        taps();
        cards();
        tripQueries();
        wouldContinue();
        chargeIfTappedOut();
        chargedOn();
        leftUnderCap();
        isRepairable();
        cardBySpending();
        totals();
        means();
        consistency();
        renderCard();
        renderZones();
        outputAt();
        type();
        runScript();
        scriptForms();
        failedCommands();
        undo();
        undoOfScript();
        snapshot();
        check.finish("PromiseTest");
    }

    private static MetroFares withCards() {
        MetroFares x = new MetroFares();
        x.issueCard(false);
        x.issueCard(true);
        return x;
    }

    private static void typeAll(MetroFares x, String text) {
        for (char character : text.toCharArray()) {
            x.type(character);
        }
    }

    private static String run(MetroFares x, String text) {
        typeAll(x, text);
        return Check.answerOf(x::runScript);
    }

    private static String output(MetroFares x, int length) {
        StringBuilder text = new StringBuilder();
        for (int i = 0; i < length; i++) {
            text.append(x.outputAt(i));
        }
        check.refused("output ends at " + length, INDEX, () -> x.outputAt(length));
        return text.toString();
    }

    // Promise 1
    private static void newObject() {
        MetroFares x = new MetroFares();
        check.same("new: cards", 0, x.cardCount());
        check.same("new: time", 0, x.time());
        check.same("new: day", 0, x.day());
        check.same("new: base fare", 200, x.baseFare());
        check.same("new: zone fare", 50, x.zoneFare());
        check.same("new: default fare", 450, x.defaultFare());
        check.same("new: zones", "112233445566", output(x, x.renderZones()));
        check.same("new: totals", 0, x.loadedTotal() + x.chargedTotal() + x.paidBackTotal());
        check.same("new: trips", 0, x.completeTrips() + x.incompleteTrips());
        for (int station = 0; station < 12; station++) {
            check.same("new: taps", 0, x.taps(station));
        }
        check.same("new: consistent", true, x.isConsistent());
        check.refused("new: undo", ELEMENT, x::undo);
        check.refused("new: restore", STATE, x::restore);
        check.refused("new: errorPosition", ELEMENT, x::errorPosition);
        check.refused("new: failedCommand", ELEMENT, x::failedCommand);
        check.refused("new: outputAt", INDEX, () -> new MetroFares().outputAt(0));
        check.refused("new: balance", INDEX, () -> x.balance(0));
        MetroFares other = withCards();
        check.same("objects are apart", 0, x.cardCount());
        check.same("objects are apart", 2, other.cardCount());
    }

    // Promise 2
    private static void issueCard() {
        MetroFares x = new MetroFares();
        for (int i = 0; i < 8; i++) {
            boolean isReduced = i % 3 == 1;
            check.same("issueCard", i, x.issueCard(isReduced));
            check.same("issueCard: count", i + 1, x.cardCount());
            check.same("issueCard: kind", isReduced, x.isReduced(i));
            check.same("issueCard: balance", 0, x.balance(i));
            check.same("issueCard: no trip", false, x.isOnTrip(i));
        }
        check.refused("issueCard: ninth", STATE, () -> x.issueCard(false));
        check.same("issueCard: still 8", 8, x.cardCount());
        x.undo();
        check.same("issueCard: after undo", 7, x.issueCard(true));
        check.same("issueCard: new kind after undo", true, x.isReduced(7));
    }

    // Promise 3
    private static void load() {
        MetroFares x = withCards();
        check.same("load", 9999, x.load(0, 9999));
        check.same("load", 10000, x.load(0, 1));
        check.same("load", 19999, x.load(0, 9999));
        check.refused("load: above 20000", UNSUPPORTED, () -> x.load(0, 2));
        check.same("load: to 20000", 20000, x.load(0, 1));
        check.refused("load: above 20000", UNSUPPORTED, () -> x.load(0, 1));
        check.same("load: other card", 5, x.load(1, 5));
        for (int cents : new int[] {0, -1, 10000, Integer.MIN_VALUE, Integer.MAX_VALUE}) {
            check.refused("load: cents " + cents, ARGUMENT, () -> x.load(0, cents));
            check.refused("load: both", INDEX, () -> x.load(2, cents));
        }
        for (int card : WRONG_CARDS) {
            check.refused("load: card " + card, INDEX, () -> x.load(card, 1));
        }
        check.same("load: nothing changed", 20000, x.balance(0));
        check.same("load: total", 20005, x.loadedTotal());
    }

    // Promise 4
    private static void tapIn() {
        MetroFares x = withCards();
        check.same("tapIn", false, x.tapIn(0, 3));
        check.same("tapIn: on trip", true, x.isOnTrip(0));
        check.same("tapIn: start", 3, x.tripStart(0));
        check.same("tapIn: free", 0, x.balance(0));
        check.same("tapIn: other card", false, x.isOnTrip(1));
        for (int card : WRONG_CARDS) {
            check.refused("tapIn: card " + card, INDEX, () -> x.tapIn(card, 0));
        }
        for (int station : WRONG_STATIONS) {
            check.refused("tapIn: station " + station, INDEX, () -> x.tapIn(1, station));
        }
        MetroFares y = withCards();
        y.setFares(500, 0);
        y.tapIn(0, 0);
        y.tapOut(0, 0);
        check.same("tapIn: balance", -500, y.balance(0));
        check.same("tapIn at -500", false, y.tapIn(0, 5));
        y.setFares(1, 0);
        y.tapOut(0, 5);
        check.same("tapIn: balance", -501, y.balance(0));
        check.refused("tapIn at -501", STATE, () -> y.tapIn(0, 5));
        check.refused("tapIn at -501, no station", INDEX, () -> y.tapIn(0, 12));
        check.same("tapIn: nothing changed", false, y.isOnTrip(0));
        check.same("tapIn: taps", 2, y.taps(5));
        y.load(0, 1);
        check.same("tapIn again at -500", true, y.tapIn(0, 5));
    }

    // Promise 4, an incomplete trip by a second tap in
    private static void tapInAgain() {
        MetroFares x = withCards();
        x.tapIn(0, 3);
        x.advance(30);
        check.same("tapIn on a trip", false, x.tapIn(0, 3));
        check.same("tapIn on a trip: charge", -450, x.balance(0));
        check.same("tapIn on a trip: incomplete", 1, x.incompleteTrips());
        check.same("tapIn on a trip: minutes", 180, x.minutesLeft(0));
        x.tapIn(1, 3);
        x.tapIn(1, 4);
        check.same("tapIn on a trip: reduced", -225, x.balance(1));
        x.setFares(201, 10);
        x.tapIn(1, 5);
        check.same("half is rounded down", -350, x.balance(1));
        MetroFares y = withCards();
        y.setFares(201, 10);
        y.tapIn(1, 0);
        y.tapIn(1, 0);
        check.same("half of the default fare", -125, y.balance(1));
        MetroFares z = withCards();
        z.setFares(999, 0);
        z.tapIn(0, 0);
        z.tapIn(0, 1);
        check.same("capped default", -700, z.balance(0));
        check.refused("on a trip below -500", STATE, () -> z.tapIn(0, 2));
        check.same("the trip stays", 1, z.tripStart(0));
        check.same("no trip became incomplete", 1, z.incompleteTrips());
    }

    // Promise 4, transfers
    private static void transfers() {
        MetroFares x = withCards();
        x.load(0, 2000);
        x.tapIn(0, 0);
        x.tapOut(0, 4);
        x.advance(15);
        check.same("transfer after 15", true, x.tapIn(0, 4));
        check.same("journey", 0, x.journeyStart(0));
        check.same("trip", 4, x.tripStart(0));
        x.tapOut(0, 6);
        check.same("transfer elsewhere", false, x.tapIn(0, 4));
        check.same("new journey", 4, x.journeyStart(0));
        x.tapOut(0, 6);
        x.advance(16);
        check.same("transfer after 16", false, x.tapIn(0, 6));
        x.advance(10);
        check.same("tap in again", false, x.tapIn(0, 6));
        MetroFares y = withCards();
        y.tapIn(1, 5);
        y.tapOut(1, 5);
        check.same("transfer at once", true, y.tapIn(1, 5));
        y.tapIn(1, 5);
        check.same("journey is over", 5, y.journeyStart(1));
        y.tapIn(1, 7);
        y.tapOut(1, 7);
        check.same("transfer after the new trip", true, y.tapIn(1, 7));
        check.same("journey", 7, y.journeyStart(1));
    }

    // Promise 5
    private static void tapOut() {
        MetroFares x = withCards();
        check.refused("tapOut: no trip", STATE, () -> x.tapOut(0, 0));
        for (int card : WRONG_CARDS) {
            check.refused("tapOut: card " + card, INDEX, () -> x.tapOut(card, 0));
        }
        for (int station : WRONG_STATIONS) {
            check.refused("tapOut: station " + station, INDEX, () -> x.tapOut(0, station));
        }
        x.tapIn(0, 7);
        x.tapIn(1, 7);
        check.refused("tapOut: no station on a trip", INDEX, () -> x.tapOut(0, 12));
        check.same("tapOut", 300, x.tapOut(0, 2));
        check.same("tapOut: balance", -300, x.balance(0));
        check.same("tapOut: off", false, x.isOnTrip(0));
        check.same("tapOut: other card", true, x.isOnTrip(1));
        check.same("tapOut: reduced", 100, x.tapOut(1, 7));
        check.refused("tapOut: twice", STATE, () -> x.tapOut(1, 7));
        MetroFares y = withCards();
        y.setFares(101, 0);
        y.tapIn(1, 0);
        check.same("half is rounded down", 50, y.tapOut(1, 0));
        MetroFares z = withCards();
        z.setFares(101, 25);
        z.tapIn(1, 0);
        check.same("half of the whole fare", 63, z.tapOut(1, 2));
        z.tapIn(0, 0);
        z.setFares(0, 0);
        check.same("fares at the end count", 0, z.tapOut(0, 11));
    }

    // Promise 5, journeys
    private static void journeyCharges() {
        MetroFares x = withCards();
        x.load(0, 2000);
        x.tapIn(0, 0);
        check.same("first trip", 250, x.tapOut(0, 3));
        x.tapIn(0, 3);
        check.same("second trip", 50, x.tapOut(0, 5));
        x.tapIn(0, 5);
        check.same("back", 0, x.tapOut(0, 0));
        x.tapIn(0, 0);
        check.same("all trips of the journey count", 50, x.tapOut(0, 7));
        MetroFares y = withCards();
        y.load(0, 2000);
        y.advance(1435);
        y.setFares(600, 0);
        y.tapIn(0, 0);
        y.tapOut(0, 0);
        y.tapIn(0, 3);
        check.same("capped", 100, y.tapOut(0, 3));
        y.advance(10);
        check.same("transfer over midnight", true, y.tapIn(0, 3));
        check.same("minus what was charged after the cap", 500, y.tapOut(0, 3));
        MetroFares z = withCards();
        z.load(1, 2000);
        z.setFares(201, 50);
        z.tapIn(1, 0);
        check.same("reduced first", 100, z.tapOut(1, 0));
        z.tapIn(1, 0);
        check.same("reduced second: half of 251 minus 100", 25, z.tapOut(1, 2));
    }

    // Promises 4, 5 and 32, caps
    private static void caps() {
        MetroFares x = withCards();
        x.load(0, 9999);
        x.load(1, 9999);
        x.setFares(300, 0);
        for (int card = 0; card < 2; card++) {
            int[] charges = card == 0 ? new int[] {300, 300, 100, 0} : new int[] {150, 150, 50, 0};
            for (int due : charges) {
                x.tapIn(card, 2);
                check.same("cap of card " + card, due, x.tapOut(card, 3));
            }
        }
        x.advance(1439);
        x.tapIn(0, 0);
        check.same("same day", 0, x.tapOut(0, 1));
        x.tapIn(0, 2);
        x.advance(1);
        check.same("next day", 300, x.tapOut(0, 1));
    }

    // Promise 6
    private static void repair() {
        MetroFares x = withCards();
        check.refused("repair: none", ELEMENT, () -> x.repair(0, 0));
        x.tapIn(0, 0);
        x.tapIn(0, 4);
        check.same("repair", 200, x.repair(0, 2));
        check.same("repair: balance", -250, x.balance(0));
        check.same("repair: day", 250, x.chargedOn(0, 0));
        check.same("repair: records", 250, x.chargedOnByRecords(0, 0));
        check.same("repair: charges stay", 450, x.chargedTotal());
        check.same("repair: paid", 200, x.paidBackTotal());
        check.same("repair: trips stay", 1, x.incompleteTrips());
        check.same("repair: none complete", 0, x.completeTrips());
        check.same("repair: no tap", 0, x.taps(2));
        check.same("repair: present trip stays", 4, x.tripStart(0));
        check.refused("repair: twice", ELEMENT, () -> x.repair(0, 2));
        x.tapIn(0, 5);
        check.same("repair: the latest, from 4", 250, x.repair(0, 4));
        x.setZone(5, 1);
        x.tapIn(1, 5);
        x.tapIn(1, 5);
        x.setFares(301, 20);
        check.same("repair: reduced, present fares", 65, x.repair(1, 4));
        MetroFares y = withCards();
        y.setFares(100, 0);
        y.tapIn(0, 0);
        y.tapIn(0, 0);
        y.setFares(300, 0);
        check.same("repair: fare above the charge", 0, y.repair(0, 0));
        check.refused("repair: counts all the same", ELEMENT, () -> y.repair(0, 0));
        check.same("repair: nothing paid", -100, y.balance(0));
        MetroFares z = withCards();
        z.load(0, 9999);
        z.load(0, 9999);
        z.load(0, 2);
        z.setFares(500, 0);
        z.tapIn(0, 0);
        z.tapIn(0, 0);
        z.load(0, 500);
        z.setFares(0, 0);
        check.same("repair: all", 500, z.repair(0, 0));
        check.same("repair: balance above 20000", 20500, z.balance(0));
        check.refused("load above 20000", UNSUPPORTED, () -> z.load(0, 1));
        check.same("repair: the cap is open again", 700, z.leftUnderCap(0));
    }

    // Promise 6, the days
    private static void repairInTime() {
        MetroFares x = withCards();
        x.advance(1300);
        x.tapIn(0, 0);
        x.advance(179);
        check.same("late: before", 0, x.incompleteTrips());
        x.advance(1);
        check.same("late: charged on day 1", 450, x.chargedOn(0, 1));
        check.same("late: not on day 0", 0, x.chargedOn(0, 0));
        x.advance(2000);
        x.advance(839);
        check.same("late: end of day 2", 4319, x.time());
        x.advance(1440);
        check.same("late: day 3", 3, x.day());
        check.same("late: repairable", true, x.isRepairable(0));
        x.advance(1);
        check.same("too late: repairable", false, x.isRepairable(0));
        check.refused("too late", STATE, () -> x.repair(0, 0));
        check.same("too late: nothing changed", -450, x.balance(0));
        x.undo();
        check.same("late: day 3", 250, x.repair(0, 0));
        check.same("late: sum of day 1", 200, x.chargedOn(0, 1));
        check.same("late: records of day 1", 200, x.chargedOnByRecords(0, 1));
        check.same("late: sum of day 3", 0, x.chargedOn(0, 3));
        x.advance(1);
        check.refused("repaired and too late", ELEMENT, () -> x.repair(0, 0));
    }

    // Promise 6, wrong inputs
    private static void repairOrder() {
        MetroFares x = withCards();
        for (int card : WRONG_CARDS) {
            check.refused("repair: card " + card, INDEX, () -> x.repair(card, 0));
        }
        for (int station : WRONG_STATIONS) {
            check.refused("repair: station " + station, INDEX, () -> x.repair(0, station));
        }
        x.tapIn(0, 0);
        check.refused("repair: present trip", ELEMENT, () -> x.repair(0, 0));
        x.tapIn(0, 0);
        check.refused("repair: no station", INDEX, () -> x.repair(0, 12));
        x.tapOut(0, 11);
        check.same("repair after a complete trip", 250, x.repair(0, 0));
    }

    // Promise 7
    private static void setZone() {
        MetroFares x = new MetroFares();
        check.same("setZone", 1, x.setZone(0, 6));
        check.same("setZone", 6, x.setZone(0, 1));
        check.same("setZone", 6, x.setZone(11, 3));
        check.same("setZone: zone", 3, x.zone(11));
        for (int zone : new int[] {0, 7, -1, Integer.MIN_VALUE, Integer.MAX_VALUE}) {
            check.refused("setZone: zone " + zone, ARGUMENT, () -> x.setZone(0, zone));
            check.refused("setZone: both", INDEX, () -> x.setZone(12, zone));
        }
        for (int station : WRONG_STATIONS) {
            check.refused("setZone: station " + station, INDEX, () -> x.setZone(station, 1));
        }
        check.same("setZone: nothing changed", 1, x.zone(0));
    }

    // Promise 8
    private static void setFares() {
        MetroFares x = new MetroFares();
        check.same("setFares", 200, x.setFares(999, 99));
        check.same("setFares: base", 999, x.baseFare());
        check.same("setFares: zone", 99, x.zoneFare());
        check.same("setFares", 999, x.setFares(0, 0));
        check.same("setFares: base", 0, x.baseFare());
        check.same("setFares: default", 0, x.defaultFare());
        int[][] wrong = {
            {-1, 0}, {1000, 0}, {0, -1}, {0, 100}, {1000, 100}, {Integer.MIN_VALUE, 0}, {0, Integer.MAX_VALUE},
        };
        for (int[] fares : wrong) {
            check.refused("setFares: " + fares[0] + " " + fares[1], ARGUMENT, () -> x.setFares(fares[0], fares[1]));
        }
        check.same("setFares: nothing changed", 0, x.baseFare() + x.zoneFare());
    }

    // Promise 9
    private static void advance() {
        MetroFares x = new MetroFares();
        check.same("advance", 0, x.advance(1));
        check.same("advance: time", 1, x.time());
        check.same("advance", 0, x.advance(2000));
        check.same("advance: time", 2001, x.time());
        for (int minutes : new int[] {0, -1, 2001, Integer.MIN_VALUE, Integer.MAX_VALUE}) {
            check.refused("advance: " + minutes, ARGUMENT, () -> x.advance(minutes));
        }
        check.same("advance: nothing changed", 2001, x.time());
    }

    // Promise 9, trips that become incomplete
    private static void expiry() {
        MetroFares x = new MetroFares();
        for (int card = 0; card < 8; card++) {
            x.issueCard(card == 3);
            x.tapIn(card, card);
            x.advance(1);
        }
        check.same("expiry: before", 0, x.advance(171));
        check.same("expiry: at 180", 1, x.advance(1));
        check.same("expiry: first card", false, x.isOnTrip(0));
        check.same("expiry: second card", true, x.isOnTrip(1));
        check.same("expiry: left", 1, x.minutesLeft(1));
        check.same("expiry: the others", 7, x.advance(2000));
        check.same("expiry: charged on the day of the minute", 225, x.chargedOn(3, 0));
        check.same("expiry: not later", 0, x.chargedOn(3, 1));
        check.same("expiry: taps", 1, x.taps(0));
        check.same("expiry: complete", 0, x.completeTrips());
        check.same("expiry: incomplete", 8, x.incompleteTrips());
        check.same("expiry: charged", 7 * 450 + 225, x.chargedTotal());
        MetroFares y = withCards();
        y.advance(1259);
        y.tapIn(0, 0);
        y.advance(1);
        y.tapIn(1, 0);
        y.advance(500);
        check.same("expiry at the last minute of day 0", 450, y.chargedOn(0, 0));
        check.same("expiry at the first minute of day 1", 225, y.chargedOn(1, 1));
        MetroFares z = withCards();
        z.tapIn(0, 2);
        z.tapOut(0, 4);
        z.tapIn(0, 4);
        z.advance(180);
        check.same("expiry: the journey is not counted off", -700, z.balance(0));
        check.same("expiry: no transfer", false, z.wouldContinue(0, 4));
    }

    // Promises 10 and 11
    private static void timeAndDay() {
        MetroFares x = new MetroFares();
        x.advance(1439);
        check.same("time", 1439, x.time());
        check.same("day", 0, x.day());
        x.advance(1);
        check.same("time", 1440, x.time());
        check.same("day", 1, x.day());
        x.advance(1439);
        check.same("day", 1, x.day());
        x.advance(1441);
        check.same("day", 3, x.day());
    }

    // Promises 12, 13 and 14
    private static void zonesAndCounts() {
        MetroFares x = new MetroFares();
        for (int station = 0; station < 12; station++) {
            check.same("zone", station / 2 + 1, x.zone(station));
            check.same("zoneCount of one", 1, x.zoneCount(station, station));
            check.same("zoneCountByComparing of one", 1, x.zoneCountByComparing(station, station));
        }
        for (int station : WRONG_STATIONS) {
            check.refused("zone: " + station, INDEX, () -> x.zone(station));
            check.refused("zoneCount: from " + station, INDEX, () -> x.zoneCount(station, 0));
            check.refused("zoneCount: to " + station, INDEX, () -> x.zoneCount(0, station));
            check.refused("zoneCountByComparing: from " + station, INDEX, () -> x.zoneCountByComparing(station, 0));
            check.refused("zoneCountByComparing: to " + station, INDEX, () -> x.zoneCountByComparing(0, station));
        }
        counts(x, 0, 11, 6);
        counts(x, 1, 2, 2);
        counts(x, 2, 3, 1);
        counts(x, 3, 8, 4);
        x.setZone(5, 1);
        counts(x, 0, 5, 3);
        counts(x, 4, 6, 3);
        x.setZone(4, 2);
        counts(x, 0, 5, 2);
        for (int station = 0; station < 12; station++) {
            x.setZone(station, 6);
        }
        counts(x, 0, 11, 1);
    }

    private static void counts(MetroFares x, int from, int to, int due) {
        check.same("zoneCount " + from + " " + to, due, x.zoneCount(from, to));
        check.same("zoneCount " + to + " " + from, due, x.zoneCount(to, from));
        check.same("zoneCountByComparing " + from + " " + to, due, x.zoneCountByComparing(from, to));
        check.same("zoneCountByComparing " + to + " " + from, due, x.zoneCountByComparing(to, from));
    }

    // Promises 15 to 18
    private static void fares() {
        MetroFares x = new MetroFares();
        check.same("fare", 200, x.fare(3, 3));
        check.same("fare", 450, x.fare(0, 11));
        check.same("fare", 300, x.fare(6, 2));
        x.setFares(123, 45);
        check.same("baseFare", 123, x.baseFare());
        check.same("zoneFare", 45, x.zoneFare());
        check.same("defaultFare", 348, x.defaultFare());
        check.same("fare", 168, x.fare(1, 2));
        for (int station : WRONG_STATIONS) {
            check.refused("fare: from " + station, INDEX, () -> x.fare(station, 0));
            check.refused("fare: to " + station, INDEX, () -> x.fare(0, station));
        }
    }

    // Promises 19 and 20
    private static void taps() {
        MetroFares x = withCards();
        for (int rank = 0; rank < 12; rank++) {
            check.same("stationByTaps at first", rank, x.stationByTaps(rank));
        }
        x.tapIn(0, 7);
        x.tapIn(0, 7);
        x.tapOut(0, 7);
        x.tapIn(1, 9);
        x.tapOut(1, 3);
        check.same("taps", 3, x.taps(7));
        check.same("taps", 1, x.taps(9));
        check.same("taps", 1, x.taps(3));
        check.same("taps", 0, x.taps(0));
        check.same("stationByTaps", 7, x.stationByTaps(0));
        check.same("stationByTaps", 3, x.stationByTaps(1));
        check.same("stationByTaps", 9, x.stationByTaps(2));
        check.same("stationByTaps", 0, x.stationByTaps(3));
        check.same("stationByTaps", 11, x.stationByTaps(11));
        for (int wrong : WRONG_STATIONS) {
            check.refused("taps: " + wrong, INDEX, () -> x.taps(wrong));
            check.refused("stationByTaps: " + wrong, ELEMENT, () -> x.stationByTaps(wrong));
        }
    }

    // Promises 21 to 24
    private static void cards() {
        MetroFares x = withCards();
        check.same("cardCount", 2, x.cardCount());
        check.same("isReduced", false, x.isReduced(0));
        check.same("isReduced", true, x.isReduced(1));
        x.load(1, 70);
        check.same("balance", 0, x.balance(0));
        check.same("balance", 70, x.balance(1));
        check.same("isOnTrip", false, x.isOnTrip(1));
        x.tapIn(1, 0);
        check.same("isOnTrip", true, x.isOnTrip(1));
        for (int card : WRONG_CARDS) {
            check.refused("isReduced: " + card, INDEX, () -> x.isReduced(card));
            check.refused("balance: " + card, INDEX, () -> x.balance(card));
            check.refused("isOnTrip: " + card, INDEX, () -> x.isOnTrip(card));
        }
        x.tapOut(1, 0);
        check.same("balance below 0", -30, x.balance(1));
    }

    // Promises 25, 26 and 27
    private static void tripQueries() {
        MetroFares x = withCards();
        check.refused("tripStart: no trip", ELEMENT, () -> x.tripStart(0));
        check.refused("journeyStart: no trip", ELEMENT, () -> x.journeyStart(0));
        check.refused("minutesLeft: no trip", ELEMENT, () -> x.minutesLeft(0));
        for (int card : WRONG_CARDS) {
            check.refused("tripStart: " + card, INDEX, () -> x.tripStart(card));
            check.refused("journeyStart: " + card, INDEX, () -> x.journeyStart(card));
            check.refused("minutesLeft: " + card, INDEX, () -> x.minutesLeft(card));
        }
        x.tapIn(0, 8);
        x.advance(40);
        check.same("tripStart", 8, x.tripStart(0));
        check.same("journeyStart", 8, x.journeyStart(0));
        check.same("minutesLeft", 140, x.minutesLeft(0));
        x.tapOut(0, 1);
        check.refused("minutesLeft: after", ELEMENT, () -> x.minutesLeft(0));
        x.tapIn(0, 1);
        check.same("tripStart of the transfer", 1, x.tripStart(0));
        check.same("journeyStart of the transfer", 8, x.journeyStart(0));
        check.same("minutesLeft of the transfer", 180, x.minutesLeft(0));
        x.advance(180);
        check.refused("tripStart: after", ELEMENT, () -> x.tripStart(0));
    }

    // Promise 28
    private static void wouldContinue() {
        MetroFares x = withCards();
        check.same("wouldContinue: no trip before", false, x.wouldContinue(0, 0));
        x.tapIn(0, 0);
        check.same("wouldContinue: on a trip", false, x.wouldContinue(0, 0));
        x.tapOut(0, 5);
        check.same("wouldContinue", true, x.wouldContinue(0, 5));
        check.same("wouldContinue: elsewhere", false, x.wouldContinue(0, 0));
        check.same("wouldContinue: other card", false, x.wouldContinue(1, 5));
        x.advance(15);
        check.same("wouldContinue: 15", true, x.wouldContinue(0, 5));
        x.advance(1);
        check.same("wouldContinue: 16", false, x.wouldContinue(0, 5));
        x.undo();
        x.tapIn(0, 5);
        check.same("wouldContinue: on the next trip", false, x.wouldContinue(0, 5));
        for (int card : WRONG_CARDS) {
            check.refused("wouldContinue: card " + card, INDEX, () -> x.wouldContinue(card, 0));
        }
        for (int station : WRONG_STATIONS) {
            check.refused("wouldContinue: station " + station, INDEX, () -> x.wouldContinue(0, station));
        }
    }

    // Promise 29
    private static void chargeIfTappedOut() {
        MetroFares x = withCards();
        check.refused("chargeIfTappedOut: no trip", ELEMENT, () -> x.chargeIfTappedOut(0, 0));
        check.refused("chargeIfTappedOut: no trip, no station", INDEX, () -> x.chargeIfTappedOut(0, 12));
        for (int card : WRONG_CARDS) {
            check.refused("chargeIfTappedOut: card " + card, INDEX, () -> x.chargeIfTappedOut(card, 0));
        }
        x.tapIn(0, 0);
        for (int station : WRONG_STATIONS) {
            check.refused("chargeIfTappedOut: station " + station, INDEX, () -> x.chargeIfTappedOut(0, station));
        }
        for (int station = 0; station < 12; station++) {
            check.same("chargeIfTappedOut", 200 + 50 * (station / 2), x.chargeIfTappedOut(0, station));
        }
        check.same("chargeIfTappedOut: free", 0, x.balance(0));
        x.tapOut(0, 4);
        x.tapIn(0, 4);
        check.same("chargeIfTappedOut: journey", 150, x.chargeIfTappedOut(0, 11));
        check.same("chargeIfTappedOut: journey back", 0, x.chargeIfTappedOut(0, 0));
        x.setFares(999, 0);
        check.same("chargeIfTappedOut: cap", 400, x.chargeIfTappedOut(0, 0));
        x.tapIn(1, 2);
        check.same("chargeIfTappedOut: reduced cap", 350, x.chargeIfTappedOut(1, 2));
        check.same("chargeIfTappedOut: the same", 350, x.tapOut(1, 2));
    }

    // Promises 30 and 31
    private static void chargedOn() {
        MetroFares x = withCards();
        check.refused("chargedOn: day 1", ARGUMENT, () -> x.chargedOn(0, 1));
        check.refused("chargedOnByRecords: day -1", ARGUMENT, () -> x.chargedOnByRecords(0, -1));
        for (int day = 0; day < 6; day++) {
            x.setFares(100 + day, 0);
            x.tapIn(0, 0);
            x.tapOut(0, 0);
            check.same("day", day, x.day());
            for (int back = 0; back < 3 && back <= day; back++) {
                check.same("chargedOn", 100 + day - back, x.chargedOn(0, day - back));
                check.same("chargedOnByRecords", 100 + day - back, x.chargedOnByRecords(0, day - back));
                check.same("chargedOn: other card", 0, x.chargedOn(1, day - back));
                check.same("chargedOnByRecords: other card", 0, x.chargedOnByRecords(1, day - back));
            }
            x.load(0, 200);
            x.advance(1440);
        }
        for (int day : new int[] {-1, 3, 7, Integer.MIN_VALUE, Integer.MAX_VALUE}) {
            check.refused("chargedOn: day " + day, ARGUMENT, () -> x.chargedOn(0, day));
            check.refused("chargedOnByRecords: day " + day, ARGUMENT, () -> x.chargedOnByRecords(0, day));
            check.refused("chargedOn: both", INDEX, () -> x.chargedOn(2, day));
        }
        check.same("chargedOn: day 4", 104, x.chargedOn(0, 4));
        check.same("chargedOn: day 6", 0, x.chargedOn(0, 6));
        for (int card : WRONG_CARDS) {
            check.refused("chargedOn: card " + card, INDEX, () -> x.chargedOn(card, 6));
            check.refused("chargedOnByRecords: card " + card, INDEX, () -> x.chargedOnByRecords(card, 6));
        }
    }

    // Promise 32
    private static void leftUnderCap() {
        MetroFares x = withCards();
        check.same("leftUnderCap", 700, x.leftUnderCap(0));
        check.same("leftUnderCap: reduced", 350, x.leftUnderCap(1));
        x.tapIn(0, 0);
        x.tapIn(1, 0);
        check.same("leftUnderCap: trip open", 700, x.leftUnderCap(0));
        x.advance(180);
        check.same("leftUnderCap", 250, x.leftUnderCap(0));
        check.same("leftUnderCap: reduced", 125, x.leftUnderCap(1));
        x.repair(0, 0);
        check.same("leftUnderCap: repaired", 500, x.leftUnderCap(0));
        x.advance(1260);
        check.same("leftUnderCap: next day", 700, x.leftUnderCap(0));
        for (int card : WRONG_CARDS) {
            check.refused("leftUnderCap: " + card, INDEX, () -> x.leftUnderCap(card));
        }
    }

    // Promise 33
    private static void isRepairable() {
        MetroFares x = withCards();
        check.same("isRepairable: none", false, x.isRepairable(0));
        x.tapIn(0, 0);
        check.same("isRepairable: present trip", false, x.isRepairable(0));
        x.advance(180);
        check.same("isRepairable", true, x.isRepairable(0));
        check.same("isRepairable: other", false, x.isRepairable(1));
        x.advance(2000);
        x.advance(2000);
        check.same("isRepairable: day 2", true, x.isRepairable(0));
        x.advance(139);
        check.same("isRepairable: end of day 2", true, x.isRepairable(0));
        x.advance(1);
        check.same("isRepairable: day 3", false, x.isRepairable(0));
        x.undo();
        x.repair(0, 11);
        check.same("isRepairable: repaired", false, x.isRepairable(0));
        for (int card : WRONG_CARDS) {
            check.refused("isRepairable: " + card, INDEX, () -> x.isRepairable(card));
        }
    }

    // Promise 34
    private static void cardBySpending() {
        MetroFares x = new MetroFares();
        check.refused("cardBySpending: none", ELEMENT, () -> x.cardBySpending(0));
        for (int card = 0; card < 5; card++) {
            x.issueCard(false);
        }
        ranks(x, 0, 1, 2, 3, 4);
        x.load(1, 10);
        x.load(0, 5);
        ranks(x, 2, 3, 4, 0, 1);
        x.tapIn(3, 0);
        x.tapOut(3, 11);
        x.tapIn(1, 0);
        x.tapOut(1, 11);
        x.tapIn(4, 0);
        x.tapOut(4, 3);
        ranks(x, 3, 1, 4, 2, 0);
        x.advance(1440);
        ranks(x, 3, 1, 4, 2, 0);
        x.load(3, 999);
        ranks(x, 1, 4, 2, 0, 3);
        for (int rank : new int[] {-1, 5, 8, Integer.MIN_VALUE, Integer.MAX_VALUE}) {
            check.refused("cardBySpending: " + rank, ELEMENT, () -> x.cardBySpending(rank));
        }
    }

    private static void ranks(MetroFares x, int... due) {
        for (int rank = 0; rank < due.length; rank++) {
            check.same("cardBySpending " + rank, due[rank], x.cardBySpending(rank));
        }
    }

    // Promises 35 to 39
    private static void totals() {
        MetroFares x = withCards();
        x.load(0, 100);
        x.load(1, 20);
        x.tapIn(0, 0);
        x.tapOut(0, 0);
        x.tapIn(1, 0);
        x.tapIn(1, 0);
        x.repair(1, 0);
        check.same("loadedTotal", 120, x.loadedTotal());
        check.same("chargedTotal", 425, x.chargedTotal());
        check.same("paidBackTotal", 125, x.paidBackTotal());
        check.same("completeTrips", 1, x.completeTrips());
        check.same("incompleteTrips", 1, x.incompleteTrips());
        x.advance(180);
        check.same("chargedTotal", 650, x.chargedTotal());
        check.same("incompleteTrips", 2, x.incompleteTrips());
        check.same("completeTrips", 1, x.completeTrips());
    }

    // Promises 40 to 43
    private static void means() {
        MetroFares x = withCards();
        check.refused("meanCharge: none", ARITHMETIC, x::meanCharge);
        check.refused("meanChargeBits: none", ARITHMETIC, x::meanChargeBits);
        check.refused("incompleteShare: none", ARITHMETIC, x::incompleteShare);
        check.refused("incompleteShareBits: none", ARITHMETIC, x::incompleteShareBits);
        x.tapIn(0, 0);
        check.refused("meanCharge: trip open", ARITHMETIC, x::meanCharge);
        x.setFares(0, 0);
        x.tapOut(0, 0);
        mean(x, 0, 1, 0);
        x.setFares(1, 0);
        x.tapIn(0, 5);
        x.tapIn(0, 5);
        mean(x, 1, 2, 1);
        x.tapIn(0, 5);
        mean(x, 2, 3, 2);
        x.setFares(199, 7);
        x.tapOut(0, 11);
        mean(x, 2 + 220, 4, 2);
        x.repair(0, 5);
        mean(x, 222, 4, 2);
        for (int i = 0; i < 40; i++) {
            x.setFares(i % 3 == 0 ? 1 : 0, 0);
            x.tapIn(1, i % 12);
            if (i % 2 == 0) {
                x.tapOut(1, 0);
            } else {
                x.advance(180);
            }
            int trips = x.completeTrips() + x.incompleteTrips();
            mean(x, x.chargedTotal(), trips, x.incompleteTrips());
        }
        MetroFares y = withCards();
        y.tapIn(0, 0);
        y.advance(180);
        mean(y, 450, 1, 1);
        y.undo();
        y.setFares(1, 0);
        y.tapOut(0, 0);
        y.setFares(0, 0);
        for (int trips = 2; trips < 40; trips++) {
            y.tapIn(0, 0);
            y.tapOut(0, 0);
            mean(y, 1, trips, 0);
        }
    }

    private static void mean(MetroFares x, int charged, int trips, int incomplete) {
        double mean = (double) charged / trips;
        float share = (float) incomplete / trips;
        check.same("meanCharge", mean, x.meanCharge());
        check.same("meanChargeBits", Double.doubleToLongBits(mean), x.meanChargeBits());
        check.same("incompleteShare", share, x.incompleteShare());
        check.same("incompleteShareBits", Float.floatToIntBits(share), x.incompleteShareBits());
    }

    // Promise 44
    private static void consistency() {
        MetroFares x = withCards();
        check.same("isConsistent", true, x.isConsistent());
        x.load(0, 3000);
        for (int i = 0; i < 12; i++) {
            x.tapIn(0, i);
            x.advance(170 + i);
            x.setZone(i, (i * 5) % 6 + 1);
            if (x.isOnTrip(0)) {
                x.tapOut(0, 11 - i);
            } else {
                x.repair(0, i);
            }
            x.advance(600);
            check.same("isConsistent", true, x.isConsistent());
        }
        check.same("isConsistent: paid back", true, x.paidBackTotal() > 0);
        x.undo();
        x.undo();
        check.same("isConsistent after undo", true, x.isConsistent());
    }

    // Promise 45
    private static void renderCard() {
        MetroFares x = withCards();
        x.issueCard(true);
        check.same("renderCard", 4, x.renderCard(0));
        check.same("renderCard", "0f:0", output(x, 4));
        x.tapIn(2, 0);
        x.tapOut(2, 4);
        x.tapIn(2, 7);
        check.same("renderCard", 9, x.renderCard(2));
        check.same("renderCard", "2r:-150@7", output(x, 9));
        x.load(1, 9999);
        x.load(1, 5001);
        x.tapIn(1, 11);
        check.same("renderCard", 11, x.renderCard(1));
        check.same("renderCard", "1r:15000@11", output(x, 11));
        for (int card : new int[] {-1, 3, 8, Integer.MIN_VALUE, Integer.MAX_VALUE}) {
            check.refused("renderCard: " + card, INDEX, () -> x.renderCard(card));
        }
        check.same("renderCard: text stays", "1r:15000@11", output(x, 11));
        x.undo();
        check.same("renderCard: text stays after undo", "1r:15000@11", output(x, 11));
        check.same("renderCard: shorter", "0f:0", output(x, x.renderCard(0)));
    }

    // Promise 46
    private static void renderZones() {
        MetroFares x = new MetroFares();
        check.same("renderZones", 12, x.renderZones());
        check.same("renderZones", "112233445566", output(x, 12));
        x.setZone(0, 6);
        x.setZone(11, 2);
        check.same("renderZones: text stays", "112233445566", output(x, 12));
        check.same("renderZones", "612233445562", output(x, x.renderZones()));
    }

    // Promise 47
    private static void outputAt() {
        MetroFares x = withCards();
        check.refused("outputAt: empty", INDEX, () -> x.outputAt(0));
        x.renderZones();
        check.same("outputAt", '1', x.outputAt(0));
        check.same("outputAt", '6', x.outputAt(11));
        for (int index : WRONG_STATIONS) {
            check.refused("outputAt: " + index, INDEX, () -> x.outputAt(index));
        }
        x.save();
        x.renderCard(1);
        x.restore();
        check.same("outputAt: restore leaves the text", 'r', x.outputAt(1));
    }

    // Promise 48
    private static void type() {
        MetroFares x = new MetroFares();
        for (char wrong : new char[] {0, 10, 31, 127, 128, 255, 65535}) {
            check.refused("type: " + (int) wrong, ARGUMENT, () -> x.type(wrong));
        }
        for (int i = 0; i < 60; i++) {
            check.same("type", i + 1, x.type(i % 2 == 0 ? ' ' : '~'));
        }
        check.refused("type: full", STATE, () -> x.type('a'));
        check.refused("type: full and wrong", ARGUMENT, () -> x.type((char) 127));
        check.refused("type: run", ARGUMENT, x::runScript);
        check.same("type: empty again", 1, x.type('a'));
        check.refused("type: no change", ELEMENT, x::undo);
        x.save();
        x.type('b');
        x.restore();
        check.same("type: restore leaves the buffer", 3, x.type('c'));
    }

    // Promise 49
    private static void runScript() {
        MetroFares x = new MetroFares();
        check.same("runScript", "7", run(x, "card r;card f;load 1 0500;in 1 02;wait 9;out 1 3;zone 11 4"));
        check.same("runScript: cards", 2, x.cardCount());
        check.same("runScript: r", true, x.isReduced(0));
        check.same("runScript: f", false, x.isReduced(1));
        check.same("runScript: balance", 300, x.balance(1));
        check.same("runScript: time", 9, x.time());
        check.same("runScript: zone", 4, x.zone(11));
        check.same("runScript: one change", 0, x.undo());
        check.same("runScript: undone", 0, x.cardCount());
        x.issueCard(false);
        check.same("runScript: fix", "4", run(x, "in 0 5;in 0 6;fix 0 5;out 0 6"));
        check.same("runScript: paid", 250, x.paidBackTotal());
        check.same("runScript: one", "1", run(x, "wait 2000"));
        typeAll(x, "wait 1;wait 1;wait 1;wait 1;wait 1;wait 1;wait 1;zone 0001 2");
        check.refused("runScript: full buffer", STATE, () -> x.type(';'));
        check.same("runScript: full buffer", 8, x.runScript());
        check.same("runScript: full buffer", 2, x.zone(1));
        check.refused("runScript: empty", ARGUMENT, x::runScript);
        check.same("runScript: empty", 0, x.errorPosition());
        check.same("runScript: nothing left in the buffer", 1, x.type('w'));
    }

    // Promises 49 and 50
    private static void scriptForms() {
        MetroFares x = withCards();
        String[] texts = {
            "", "?", " card f", "Card f", "c", "card", "card ", "card x", "card  f", "card f ", "card f;", "card ff",
            "card f,card r", "load", "load ", "load x 1", "load 0", "load 0 ", "load 00 1", "load 0 x", "load 0  1",
            "load 0 12345", "load 0 1 ", "in", "in ", "in 0", "in 0 ", "in 0 99999", "in00", "out 0", "out 0 0;;",
            "fix 0 0;f", "fix 0 0;fi0", "fix a", "zone ", "zone 1", "zone 1 ", "zone 12345 1", "zone 1 11", "zone 1 x",
            "zone  1", "wait ", "wait 12345", "wait 1;", "wait -1", "wait 1 ", "wait 1;wait", "lx", "ox", "zx", "wx", "ix",
            "wait 1;wait 1;wait 1;wait 1;wait 1;wait 1;wait 1;wait 1111;a",
        };
        int[] due = {
            0, 0, 0, 0, 1, 4, 5, 5, 5, 6, 7, 6,
            6, 4, 5, 5, 6, 7, 6, 7, 7,
            11, 8, 2, 3, 4, 5, 9, 2, 5, 8,
            9, 10, 4, 5, 6, 7, 9, 8, 7,
            5, 5, 9, 7, 5, 6, 11, 1, 1, 1, 1, 1,
            59,
        };
        for (int i = 0; i < texts.length; i++) {
            String text = texts[i];
            check.same("no script: " + text, "throws java.lang.IllegalArgumentException",
                    run(x, text.length() > 60 ? text.substring(0, 60) : text));
            check.same("errorPosition: " + text, due[i], x.errorPosition());
        }
        check.same("scripts without the form change nothing", 0, x.time());
        check.same("a good script", "1", run(x, "wait 1"));
        check.same("errorPosition stays", 59, x.errorPosition());
        x.undo();
        check.same("errorPosition stays after undo", 59, x.errorPosition());
        check.refused("failedCommand: none", ELEMENT, x::failedCommand);
        check.same("changes before", 1, x.undo());
    }

    // Promises 49 and 51
    private static void failedCommands() {
        MetroFares x = withCards();
        String[] texts = {
            "wait 0", "wait 1;wait 2001", "load 2 1", "load 0 0", "wait 5;card f;in 2 0;load 9 1", "in 0 12", "in 0 9999",
            "out 0 0", "fix 0 0", "zone 12 1", "wait 1;zone 0 0", "zone 0 7", "in 0 0;out 0 0;out 0 0",
            "load 0 9999;load 0 9999;load 0 3",
        };
        int[] due = {0, 1, 0, 0, 3, 0, 0, 0, 0, 0, 1, 0, 2, 2};
        for (int i = 0; i < texts.length; i++) {
            check.same("fails: " + texts[i], "throws java.lang.IllegalStateException", run(x, texts[i]));
            check.same("failedCommand: " + texts[i], due[i], x.failedCommand());
            check.same("no command took effect", 0, x.time() + x.balance(0) + x.chargedTotal() + x.taps(0));
            check.same("no command took effect", 2, x.cardCount());
        }
        check.refused("errorPosition: none", ELEMENT, x::errorPosition);
        check.same("the buffer is empty", 1, x.type('x'));
        check.refused("runScript", ARGUMENT, x::runScript);
        check.same("failedCommand stays", 2, x.failedCommand());
        check.same("changes before", 1, x.undo());
        check.same("failedCommand stays after undo", 2, x.failedCommand());
        MetroFares y = new MetroFares();
        for (int i = 0; i < 8; i++) {
            y.issueCard(false);
        }
        check.same("fails: ninth card", "throws java.lang.IllegalStateException", run(y, "card f"));
        for (int left = 7; left >= 0; left--) {
            check.same("a failed script leaves what can be undone", left, y.undo());
        }
        check.same("all undone", 0, y.cardCount());
    }

    // Promise 52
    private static void undo() {
        MetroFares x = new MetroFares();
        for (int i = 0; i < 20; i++) {
            x.advance(i + 1);
        }
        int time = x.time();
        for (int left = 7; left >= 0; left--) {
            check.same("undo", left, x.undo());
            time -= 13 + left;
            check.same("undo: time", time, x.time());
        }
        check.refused("undo: no more", ELEMENT, x::undo);
        check.same("undo: nothing changed", time, x.time());
        x.advance(1);
        x.setZone(0, 1);
        check.same("undo: a change without effect", 1, x.undo());
        x.setFares(1, 2);
        check.same("undo after undo", 1, x.undo());
        check.same("undo: fares", 200, x.baseFare());
        check.same("undo: last", 0, x.undo());
        check.refused("advance(0)", ARGUMENT, () -> x.advance(0));
        check.refused("undo: a refused call is no change", ELEMENT, x::undo);
        MetroFares y = withCards();
        y.load(0, 5);
        y.tapIn(0, 0);
        y.tapOut(0, 3);
        y.tapIn(0, 3);
        y.tapIn(0, 3);
        y.repair(0, 3);
        check.same("before undo", -445, y.balance(0));
        y.undo();
        check.same("undo repair: balance", -695, y.balance(0));
        check.same("undo repair: repairable", true, y.isRepairable(0));
        check.same("undo repair: sum", 700, y.chargedOn(0, 0));
        check.same("undo repair: records", 700, y.chargedOnByRecords(0, 0));
        check.same("undo repair: total", 0, y.paidBackTotal());
        y.undo();
        check.same("undo tapIn: journey", 0, y.journeyStart(0));
        check.same("undo tapIn: taps", 2, y.taps(3));
        check.same("undo tapIn: incomplete", 0, y.incompleteTrips());
        y.undo();
        check.same("undo tapIn: off", false, y.isOnTrip(0));
        check.same("undo tapIn: transfer", true, y.wouldContinue(0, 3));
        y.undo();
        check.same("undo tapOut", 0, y.tripStart(0));
        check.same("undo tapOut: trips", 0, y.completeTrips());
        check.same("undo: other exit", 450, y.tapOut(0, 11));
        check.same("undo: other records", 450, y.chargedOnByRecords(0, 0));
        check.same("undo: consistent", true, y.isConsistent());
    }

    // Promise 52, scripts and the snapshot
    private static void undoOfScript() {
        MetroFares x = withCards();
        x.save();
        x.load(0, 7);
        check.same("script", "3", run(x, "load 0 1;wait 3;in 0 0"));
        check.same("undo script", 2 + 1, x.undo());
        check.same("undo script: balance", 7, x.balance(0));
        check.same("undo script: time", 0, x.time());
        x.type('w');
        x.undo();
        check.same("undo leaves the buffer", 2, x.type('a'));
        check.same("undo leaves the snapshot", 2, x.restore());
    }

    // Promises 53 and 54
    private static void snapshot() {
        MetroFares x = new MetroFares();
        check.refused("restore: none", STATE, x::restore);
        check.same("save", 0, x.save());
        x.issueCard(true);
        x.load(0, 50);
        check.same("save is no change", 1, x.save());
        check.same("undo after save", 1, x.undo());
        check.same("undo after save: balance", 0, x.balance(0));
        x.issueCard(false);
        x.tapIn(1, 3);
        x.advance(2000);
        check.same("restore", 1, x.restore());
        check.same("restore: cards", 1, x.cardCount());
        check.same("restore: balance", 50, x.balance(0));
        check.same("restore: time", 0, x.time());
        check.same("restore: taps", 0, x.taps(3));
        check.refused("restore: nothing to undo", ELEMENT, x::undo);
        x.load(0, 1);
        check.same("undo after restore", 0, x.undo());
        check.same("the snapshot is kept", 1, x.restore());
        check.same("the snapshot is kept: balance", 50, x.balance(0));
        check.same("a new card after restore", 1, x.issueCard(true));
        check.same("a new card is new", true, x.isReduced(1));
        check.same("a new card is off", false, x.isOnTrip(1));
        check.same("a new card has not been charged", 0, x.chargedOn(1, 0));
        check.same("a new card has no trip to repair", false, x.isRepairable(1));
        x.tapIn(0, 0);
        x.tapOut(0, 0);
        x.save();
        x.undo();
        x.undo();
        x.tapIn(0, 5);
        x.tapIn(0, 5);
        x.restore();
        check.same("restore: records", 100, x.chargedOnByRecords(0, 0));
        check.same("restore: sum", 100, x.chargedOn(0, 0));
        check.same("restore: consistent", true, x.isConsistent());
    }
}
