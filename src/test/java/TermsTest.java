import java.util.NoSuchElementException;

/** A test for each sentence of the Terms, on both sides of each boundary that it names. */
final class TermsTest {
    private static final Class<IllegalArgumentException> ARGUMENT = IllegalArgumentException.class;
    private static final Class<IllegalStateException> STATE = IllegalStateException.class;
    private static final Class<NoSuchElementException> ELEMENT = NoSuchElementException.class;
    private static final Class<UnsupportedOperationException> UNSUPPORTED = UnsupportedOperationException.class;

    private TermsTest() { }

    public static void main(String[] args) throws ReflectiveOperationException {
        Probe.run(TermsTest.class);
    }

    // ---- stations, zones and fares

    @Says("All integer divisions round down.")
    static void divisions(Probe p) {
        int[][] halves = {{0, 0}, {1, 0}, {2, 1}, {3, 1}, {199, 99}, {200, 100}, {201, 100}};
        for (int[] half : halves) {
            MetroFares x = Metros.with("r");
            x.setFares(half[0], 0);
            p.same("half of " + half[0], half[1], Metros.ride(x, 0, 3, 3));
        }
        MetroFares x = new MetroFares();
        p.same("zone of 3", 2, x.zone(3));
        x.advance(1439);
        p.same("day of 1439", 0, x.day());
    }

    @Says("The metro has the stations 0 to 11 on one line; two stations are neighbours if their numbers differ by 1.")
    static void stations(Probe p) {
        p.takesStations((x, station) -> x.tapIn(0, station));
        MetroFares x = new MetroFares();
        for (int station = 0; station < 11; station++) {
            int zones = x.zone(station) == x.zone(station + 1) ? 1 : 2;
            p.same("neighbours " + station, zones, x.zoneCount(station, station + 1));
        }
    }

    @Says("Every station has a zone from 1 to 6; initially station s has the zone s / 2 + 1.")
    static void zones(Probe p) {
        MetroFares x = new MetroFares();
        for (int station = 0; station < 12; station++) {
            p.same("zone of " + station, station / 2 + 1, x.zone(station));
            for (int zone = 1; zone <= 6; zone++) {
                x.setZone(station, zone);
                p.same("zone of " + station, zone, x.zone(station));
            }
        }
        for (int zone : new int[] {0, 7}) {
            p.refusedWhenBusy("zone " + zone, ARGUMENT, y -> y.setZone(0, zone));
        }
    }

    @Says("A trip between two stations passes all stations from one to the other, both included.")
    static void passedStations(Probe p) {
        for (int odd = 0; odd < 12; odd++) {
            MetroFares x = new MetroFares();
            Metros.setZones(x, "333333333333");
            x.setZone(odd, 4);
            for (int from = 0; from < 12; from++) {
                for (int to = 0; to < 12; to++) {
                    boolean passes = Math.min(from, to) <= odd && odd <= Math.max(from, to) && from != to;
                    p.same(from + " to " + to + " past " + odd, passes ? 2 : 1, x.zoneCount(from, to));
                }
            }
        }
    }

    @Says("The zone count of a trip is the number of different zones of these stations.")
    static void differentZones(Probe p) {
        MetroFares x = new MetroFares();
        Metros.setZones(x, "121314156666");
        int[] counts = {1, 2, 2, 3, 3, 4, 4, 5, 6, 6, 6, 6};
        for (int to = 0; to < 12; to++) {
            p.same("0 to " + to, counts[to], x.zoneCount(0, to));
            p.same(to + " to 0", counts[to], x.zoneCount(to, 0));
        }
        Metros.setZones(x, "666666666666");
        p.same("one zone", 1, x.zoneCount(0, 11));
        Metros.setZones(x, "123456");
        p.same("six zones", 6, x.zoneCount(0, 5));
    }

    @Says("The fare of a trip is the base fare plus the zone fare for each zone of its zone count except one.")
    static void fareOfTrip(Probe p) {
        int[][] fares = {{200, 50}, {0, 1}, {7, 0}, {999, 99}, {0, 0}};
        for (int[] fare : fares) {
            MetroFares x = new MetroFares();
            x.setFares(fare[0], fare[1]);
            for (int to = 0; to < 12; to++) {
                p.same("0 to " + to, fare[0] + fare[1] * (to / 2), x.fare(0, to));
            }
        }
    }

    @Says("The base fare is initially 200 cents and the zone fare 50 cents.")
    static void initialFares(Probe p) {
        MetroFares x = new MetroFares();
        p.same("base fare", 200, x.baseFare());
        p.same("zone fare", 50, x.zoneFare());
        p.same("one zone", 200, x.fare(0, 1));
        p.same("two zones", 250, x.fare(0, 2));
    }

    @Says("The default fare, which is charged for an incomplete trip, is the base fare plus 5 zone fares.")
    static void defaultFare(Probe p) {
        int[][] fares = {{200, 50, 450}, {0, 0, 0}, {0, 1, 5}, {3, 0, 3}, {204, 99, 699}, {205, 99, 700}};
        for (int[] fare : fares) {
            MetroFares x = Metros.with("f");
            Metros.setZones(x, "111111111111");
            x.setFares(fare[0], fare[1]);
            p.same("default fare", fare[2], x.defaultFare());
            x.tapIn(0, 4);
            x.tapIn(0, 4);
            p.same("charge", fare[2], x.chargedTotal());
        }
    }

    @Says("A reduced card pays half of each whole fare and of the default fare.")
    static void reducedFares(Probe p) {
        MetroFares x = Metros.with("fr");
        x.setFares(101, 25);
        p.same("full card", 126, Metros.ride(x, 0, 0, 2));
        p.same("half of the whole", 63, Metros.ride(x, 1, 0, 2));
        MetroFares y = Metros.with("fr");
        y.setFares(102, 25);
        p.same("rounded down", 63, Metros.ride(y, 1, 0, 2));
        y.tapIn(1, 0);
        y.tapIn(1, 0);
        p.same("half of the default fare 227", 63 + 113, y.chargedTotal());
    }

    // ---- cards

    @Says("At most 8 cards exist; they have the indices 0 to n - 1 in the order in which they were issued.")
    static void atMostEightCards(Probe p) {
        MetroFares x = new MetroFares();
        for (int card = 0; card < 8; card++) {
            p.same("index", card, x.issueCard(card == 2 || card == 7));
        }
        for (int card = 0; card < 8; card++) {
            p.same("kind of " + card, card == 2 || card == 7, x.isReduced(card));
        }
        p.refused("a ninth", () -> Metros.with("fffffffr"), STATE, y -> y.issueCard(true));
        MetroFares y = Metros.with("fffffff");
        p.same("the eighth", 7, y.issueCard(true));
        y.undo();
        p.same("the eighth again", 7, y.issueCard(false));
    }

    @Says("A card is full or reduced and has a balance, which is initially 0 and cannot be loaded above 20000 cents.")
    static void balances(Probe p) {
        for (String kind : new String[] {"f", "r"}) {
            MetroFares x = Metros.with(kind);
            p.same("kind", kind.equals("r"), x.isReduced(0));
            p.same("initially", 0, x.balance(0));
            x.load(0, 9999);
            x.load(0, 9999);
            p.same("to 20000", 20000, x.load(0, 2));
            p.refused("above", () -> {
                MetroFares y = Metros.with(kind);
                y.load(0, 9999);
                y.load(0, 9999);
                return y;
            }, UNSUPPORTED, y -> y.load(0, 3));
        }
    }

    @Says("A card can tap in only if its balance is at least -500 cents before the call.")
    static void leastBalance(Probe p) {
        p.same("-500", "false", Check.answerOf(() -> Metros.atBalance(-500).get().tapIn(0, 4)));
        p.same("-499", "false", Check.answerOf(() -> Metros.atBalance(-499).get().tapIn(0, 4)));
        p.refused("-501", Metros.atBalance(-501), STATE, x -> x.tapIn(0, 4));
        MetroFares x = Metros.atBalance(-500).get();
        x.tapIn(0, 4);
        x.setFares(1, 0);
        p.same("-500 before, -501 after the default fare", false, x.tapIn(0, 5));
        p.same("balance", -501, x.balance(0));
        p.same("the new trip", 5, x.tripStart(0));
        p.refused("-501 on a trip", () -> {
            MetroFares y = Metros.atBalance(-500).get();
            y.tapIn(0, 4);
            y.setFares(1, 0);
            y.tapIn(0, 5);
            return y;
        }, STATE, y -> y.tapIn(0, 6));
        x.load(0, 1);
        p.same("-500 on a trip", false, x.tapIn(0, 6));
    }

    @Says("Charges can make a balance less than that.")
    static void belowLeastBalance(Probe p) {
        MetroFares x = Metros.atBalance(-500).get();
        x.tapIn(0, 3);
        x.setFares(200, 0);
        p.same("charge", 200, x.tapOut(0, 3));
        p.same("balance", -700, x.balance(0));
        MetroFares y = Metros.atBalance(-500).get();
        y.tapIn(0, 0);
        y.advance(1440);
        p.same("balance by time", -700, y.balance(0));
    }

    // ---- time and trips

    @Says("Time is counted in minutes from 0; a day has 1440 minutes, and the day of a time is the time divided by 1440.")
    static void timeAndDay(Probe p) {
        MetroFares x = new MetroFares();
        p.same("at first", 0, x.time());
        for (int minute : new int[] {0, 1, 1439, 1440, 1441, 2879, 2880, 4319, 4320, 14399, 14400}) {
            Metros.passTo(x, minute);
            p.same("minutes", minute, x.time());
            p.same("day of " + minute, minute / 1440, x.day());
        }
    }

    @Says("Time only passes by advance.")
    static void onlyAdvance(Probe p) {
        MetroFares x = Metros.busy();
        int minute = x.time();
        x.issueCard(false);
        x.load(0, 1);
        Metros.ride(x, 0, 5, 6);
        x.repair(1, 0);
        x.tapIn(1, 1);
        x.setZone(0, 2);
        x.setFares(1, 1);
        x.undo();
        x.save();
        x.restore();
        p.same("time", minute, x.time());
        x.advance(1);
        p.same("time", minute + 1, x.time());
    }

    @Says("A card that is not on a trip can tap in at a station.")
    static void tapInOffTrip(Probe p) {
        MetroFares x = Metros.with("f");
        x.load(0, 1000);
        x.tapIn(0, 0);
        p.same("new card", true, x.isOnTrip(0));
        x.tapOut(0, 4);
        x.tapIn(0, 11);
        p.same("after a complete trip", 11, x.tripStart(0));
        x.advance(180);
        x.tapIn(0, 7);
        p.same("after an incomplete trip", 7, x.tripStart(0));
    }

    @Says("A card that is on a trip can tap out at a station, also at the one where it tapped in.")
    static void tapOutOnTrip(Probe p) {
        for (int station = 0; station < 12; station++) {
            MetroFares x = Metros.with("f");
            p.same("at " + station, 200 + 50 * Math.abs(station / 2 - 3), Metros.ride(x, 0, 6, station));
            p.same("off", false, x.isOnTrip(0));
        }
        p.refused("not on a trip", () -> Metros.with("f"), STATE, x -> x.tapOut(0, 6));
    }

    @Says("When a card taps out, the trip is complete and is charged its fare.")
    static void completeTrip(Probe p) {
        MetroFares x = Metros.with("f");
        x.tapIn(0, 0);
        p.same("before", 0, x.completeTrips() + x.chargedTotal());
        x.tapOut(0, 4);
        p.same("complete", 1, x.completeTrips());
        p.same("not incomplete", 0, x.incompleteTrips());
        p.same("charged", 300, x.chargedTotal());
    }

    @Says("When a card on a trip taps in again, its trip becomes incomplete and is charged the default fare first, "
            + "and then the new trip begins.")
    static void tapInOnTrip(Probe p) {
        MetroFares x = Metros.with("f");
        x.tapIn(0, 3);
        x.advance(7);
        p.same("continues no journey", false, x.tapIn(0, 3));
        p.same("incomplete", 1, x.incompleteTrips());
        p.same("not complete", 0, x.completeTrips());
        p.same("charged", 450, x.chargedOn(0, 0));
        p.same("the new trip", 180, x.minutesLeft(0));
        p.same("the new trip pays what is left", 250, x.chargeIfTappedOut(0, 11));
    }

    @Says("When 180 minutes have passed since a card tapped in and it is still on this trip, the trip becomes incomplete "
            + "at that minute and is charged the default fare then; several cards at one minute in the order of their "
            + "indices.")
    static void tripEndsByTime(Probe p) {
        MetroFares x = Metros.with("frf");
        x.tapIn(0, 3);
        x.tapIn(1, 4);
        x.advance(1);
        x.tapIn(2, 5);
        p.same("minute 179", 0, x.advance(178));
        p.same("still on its trip", true, x.isOnTrip(0));
        p.same("minute 180", 2, x.advance(1));
        p.same("off", false, x.isOnTrip(0) || x.isOnTrip(1));
        p.same("charged", 450 + 225, x.chargedTotal());
        p.same("minute 181", 1, x.advance(1));
        p.same("charged", 450 + 225 + 450, x.chargedTotal());
        MetroFares y = Metros.with("f");
        y.tapIn(0, 0);
        y.advance(179);
        p.same("out at 179", 200, y.tapOut(0, 0));
        y.tapIn(0, 0);
        y.advance(100);
        y.tapIn(0, 0);
        p.same("the minutes begin again", 0, y.advance(179));
    }

    // ---- transfers

    @Says("If a card that is not on a trip taps in at the station at which it tapped out last, at most 15 minutes after "
            + "that, and its trip before was complete, the new trip continues the journey of that trip; otherwise a new "
            + "journey begins.")
    static void transfer(Probe p) {
        for (int minutes = 0; minutes <= 18; minutes++) {
            MetroFares x = Metros.with("f");
            Metros.ride(x, 0, 1, 5);
            Metros.pass(x, minutes);
            p.same("after " + minutes, minutes <= 15, x.tapIn(0, 5));
            p.same("journey after " + minutes, minutes <= 15 ? 1 : 5, x.journeyStart(0));
        }
        for (int station = 0; station < 12; station++) {
            MetroFares x = Metros.with("ff");
            x.load(0, 5000);
            Metros.ride(x, 1, 2, station);
            Metros.ride(x, 0, 3, 9);
            Metros.ride(x, 0, 1, 5);
            p.same("at " + station, station == 5, x.tapIn(0, station));
        }
        MetroFares y = Metros.with("f");
        Metros.ride(y, 0, 1, 5);
        y.tapIn(0, 5);
        p.same("on a trip", false, y.tapIn(0, 5));
        p.same("a new journey", 5, y.journeyStart(0));
        MetroFares z = Metros.with("f");
        z.tapIn(0, 5);
        z.advance(180);
        p.same("after an incomplete trip", false, z.tapIn(0, 5));
    }

    @Says("When a trip is completed, its charge is the fare of a trip from the station where the journey began to the "
            + "station where the trip ends, minus what has been charged for the trips of this journey before, but at "
            + "least 0.")
    static void journeyCharge(Probe p) {
        MetroFares x = Metros.with("f");
        p.same("first", 300, Metros.ride(x, 0, 0, 4));
        p.same("back to a lower fare", 0, Metros.ride(x, 0, 4, 2));
        p.same("to the same fare", 0, Metros.ride(x, 0, 2, 5));
        p.same("one zone more", 50, Metros.ride(x, 0, 5, 6));
        p.same("two zones more", 100, Metros.ride(x, 0, 6, 11));
        for (int base : new int[] {0, 249, 250, 251, 300}) {
            MetroFares y = Metros.with("f");
            Metros.ride(y, 0, 0, 2);
            y.setFares(base, 0);
            p.same("250 before, " + base + " now", Math.max(base - 250, 0), Metros.ride(y, 0, 2, 3));
        }
        MetroFares z = Metros.with("r");
        z.setFares(201, 51);
        p.same("reduced", 100, Metros.ride(z, 0, 0, 1));
        p.same("half of 252 less 100", 26, Metros.ride(z, 0, 1, 2));
    }

    @Says("An incomplete trip is charged the default fare, whatever the journey, and no trip can continue its journey.")
    static void incompleteInJourney(Probe p) {
        MetroFares x = Metros.with("f");
        Metros.ride(x, 0, 0, 4);
        x.tapIn(0, 4);
        x.setFares(10, 10);
        x.tapIn(0, 4);
        p.same("300 before, 60 now", 360, x.chargedTotal());
        p.same("a new journey", 4, x.journeyStart(0));
        p.same("nothing is counted off", 10, x.tapOut(0, 4));
        p.same("the new journey goes on", true, x.tapIn(0, 4));
        p.same("from its own start", 4, x.journeyStart(0));
        MetroFares y = Metros.with("f");
        Metros.ride(y, 0, 0, 4);
        y.tapIn(0, 4);
        y.setFares(10, 10);
        y.advance(180);
        p.same("by time", 360, y.chargedTotal());
        p.same("by time: a new journey", false, y.tapIn(0, 4));
        p.same("by time: nothing is counted off", 20, y.tapOut(0, 6));
    }

    // ---- caps

    @Says("The cap of a card for a day is 700 cents, or 350 cents for a reduced card.")
    static void caps(Probe p) {
        int[][] charges = {{699, 699, 1, 0}, {700, 700, 0, 0}, {701, 700, 0, 0}};
        for (int[] charge : charges) {
            MetroFares x = Metros.with("fr");
            x.load(0, 9999);
            x.setFares(charge[0], 0);
            for (int i = 1; i < charge.length; i++) {
                p.same("full, fare " + charge[0], charge[i], Metros.ride(x, 0, i, i));
            }
        }
        int[][] reduced = {{698, 349, 1, 0}, {700, 350, 0, 0}, {702, 350, 0, 0}};
        for (int[] charge : reduced) {
            MetroFares x = Metros.with("fr");
            x.load(1, 9999);
            x.setFares(charge[0], 0);
            for (int i = 1; i < charge.length; i++) {
                p.same("reduced, fare " + charge[0], charge[i], Metros.ride(x, 1, i, i));
            }
        }
    }

    @Says("A charge is reduced to the cap minus what has been charged to the card on the same day before, if it is "
            + "greater than that.")
    static void reducedCharge(Probe p) {
        for (int fare : new int[] {99, 100, 101, 900}) {
            MetroFares x = Metros.with("ff");
            x.load(0, 9999);
            Metros.pay(x, 0, 600);
            x.setFares(fare, 0);
            p.same("other card", Math.min(fare, 700), Metros.ride(x, 1, 3, 3));
            p.same("600 before, fare " + fare, Math.min(fare, 100), Metros.ride(x, 0, 3, 3));
            MetroFares y = Metros.with("f");
            y.load(0, 9999);
            Metros.pay(y, 0, 600);
            y.setFares(fare, 0);
            y.tapIn(0, 3);
            y.advance(180);
            p.same("600 before, default fare " + fare, 600 + Math.min(fare, 100), y.chargedTotal());
            MetroFares z = Metros.with("f");
            z.load(0, 9999);
            Metros.pay(z, 0, 600);
            z.setFares(fare, 0);
            z.advance(1440);
            p.same("600 the day before, fare " + fare, Math.min(fare, 700), Metros.ride(z, 0, 3, 3));
        }
    }

    @Says("The day of a charge is the day on which it is made.")
    static void dayOfCharge(Probe p) {
        for (int minute : new int[] {1439, 1440}) {
            int day = minute / 1440;
            MetroFares x = Metros.with("f");
            x.advance(1300);
            x.tapIn(0, 0);
            Metros.passTo(x, minute);
            x.tapOut(0, 0);
            Metros.passTo(x, 1440);
            p.same("out at " + minute, 200, x.chargedOn(0, day));
            p.same("out at " + minute, 0, x.chargedOn(0, 1 - day));
            MetroFares y = Metros.with("f");
            y.advance(1300);
            y.tapIn(0, 0);
            Metros.passTo(y, minute);
            y.tapIn(0, 0);
            Metros.passTo(y, 1440);
            p.same("in again at " + minute, 450, y.chargedOn(0, day));
            p.same("in again at " + minute, 0, y.chargedOn(0, 1 - day));
            MetroFares z = Metros.with("f");
            Metros.passTo(z, minute - 180);
            z.tapIn(0, 0);
            z.advance(2000);
            p.same("by time at " + minute, 450, z.chargedOn(0, day));
            p.same("by time at " + minute, 0, z.chargedOn(0, 1 - day));
            p.same("by time at " + minute, 0, z.chargedOn(0, 2));
        }
    }

    @Says("What is said about charges elsewhere means charges after this reduction.")
    static void chargesAreReduced(Probe p) {
        MetroFares x = Metros.with("f");
        x.load(0, 5000);
        Metros.passTo(x, 1430);
        Metros.pay(x, 0, 600);
        p.same("reduced", 100, Metros.ride(x, 0, 8, 8));
        p.same("the total", 700, x.chargedTotal());
        p.same("the mean", 350.0, x.meanCharge());
        x.advance(10);
        x.tapIn(0, 8);
        p.same("the journey counts 100 off", 500, x.tapOut(0, 8));
        for (int fare = 98; fare <= 101; fare++) {
            MetroFares y = Metros.with("f");
            y.load(0, 5000);
            Metros.pay(y, 0, 600);
            y.tapIn(0, 8);
            y.tapIn(0, 8);
            y.setFares(fare, 0);
            p.same("repaired to " + fare, Math.max(100 - fare, 0), y.repair(0, 8));
        }
    }

    @Says("Charges are subtracted from the balance.")
    static void chargesAndBalance(Probe p) {
        MetroFares x = Metros.with("fr");
        x.load(0, 1000);
        Metros.ride(x, 0, 0, 11);
        p.same("tap out", 550, x.balance(0));
        x.tapIn(0, 0);
        x.tapIn(0, 0);
        p.same("tap in again", 300, x.balance(0));
        x.tapIn(1, 0);
        x.advance(180);
        p.same("by time", -225, x.balance(1));
    }

    // ---- repairs

    private static MetroFares brokenAt(int minute) {
        MetroFares x = Metros.with("f");
        Metros.passTo(x, minute - 180);
        x.tapIn(0, 0);
        x.advance(180);
        return x;
    }

    @Says("The latest incomplete trip of a card can be repaired once, on the day on which it was charged or on one of "
            + "the 2 days after it, by telling the station where it ended.")
    static void repairOnce(Probe p) {
        for (int minute : new int[] {1439, 1440, 1500}) {
            int lastMinute = (minute / 1440 + 3) * 1440 - 1;
            for (int at : new int[] {minute, minute + 1440, lastMinute - 1440, lastMinute}) {
                MetroFares x = brokenAt(minute);
                Metros.passTo(x, at);
                p.same(minute + " repaired at " + at, "200", Check.answerOf(() -> x.repair(0, 2)));
                p.refused(minute + " repaired again", ELEMENT, () -> x.repair(0, 2));
            }
            p.refused(minute + " repaired too late", () -> {
                MetroFares x = brokenAt(minute);
                Metros.passTo(x, lastMinute + 1);
                return x;
            }, STATE, x -> x.repair(0, 2));
        }
        MetroFares x = Metros.with("f");
        x.tapIn(0, 0);
        x.tapIn(0, 11);
        x.setFares(10, 10);
        x.tapIn(0, 4);
        p.same("the latest, from 11", 50, x.repair(0, 11));
        p.refused("not the one before", ELEMENT, () -> x.repair(0, 0));
    }

    @Says("If the fare of a trip from its first station to this station, with the present zones and fares and halved for "
            + "a reduced card, is less than the charge of the incomplete trip, the difference is paid back: it is added "
            + "to the balance, which may become greater than 20000 by that, and subtracted from what has been charged "
            + "to the card on the day of the incomplete trip.")
    static void paidBack(Probe p) {
        int[] fares = {448, 449, 450, 451, 999};
        for (int fare : fares) {
            MetroFares x = brokenAt(180);
            x.setFares(fare, 0);
            int due = Math.max(450 - fare, 0);
            p.same("fare " + fare, due, x.repair(0, 0));
            p.same("balance", -450 + due, x.balance(0));
            p.same("charged", 450 - due, x.chargedOn(0, 0));
        }
        MetroFares x = brokenAt(1439);
        x.setZone(1, 1);
        x.setZone(2, 5);
        x.setZone(3, 1);
        Metros.passTo(x, 2880);
        Metros.ride(x, 0, 11, 11);
        p.same("present zones", 200, x.repair(0, 3));
        p.same("the day of the trip", 250, x.chargedOn(0, 0));
        p.same("the day between", 0, x.chargedOn(0, 1));
        p.same("the day of the repair", 200, x.chargedOn(0, 2));
        MetroFares y = Metros.with("r");
        y.tapIn(0, 0);
        y.tapIn(0, 0);
        y.setFares(201, 50);
        p.same("halved", 225 - 125, y.repair(0, 2));
        MetroFares z = Metros.with("f");
        Metros.ride(z, 0, 0, 2);
        z.tapIn(0, 2);
        z.tapIn(0, 2);
        p.same("its own first station", 450 - 200, z.repair(0, 3));
        MetroFares rich = brokenAt(180);
        rich.load(0, 9999);
        rich.load(0, 9999);
        rich.load(0, 452);
        p.same("above 20000", 250, rich.repair(0, 0));
        p.same("above 20000", 20250, rich.balance(0));
    }

    @Says("If nothing is paid back, the trip counts as repaired all the same.")
    static void repairedForNothing(Probe p) {
        for (int fare : new int[] {450, 451}) {
            MetroFares x = brokenAt(180);
            x.setFares(fare, 0);
            p.same("nothing", 0, x.repair(0, 0));
            p.same("repairable", false, x.isRepairable(0));
            p.refused("again", () -> {
                MetroFares y = brokenAt(180);
                y.setFares(fare, 0);
                y.repair(0, 0);
                y.setFares(0, 0);
                return y;
            }, ELEMENT, y -> y.repair(0, 0));
        }
    }
}
