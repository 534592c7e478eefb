import java.util.NoSuchElementException;

/** A test for each sentence of the promises 10 to 20, on both sides of each boundary that it names. */
final class StationsTest {
    private static final Class<NoSuchElementException> ELEMENT = NoSuchElementException.class;

    private static final String NO_STATION = "Throws `IndexOutOfBoundsException` if there is no such station";
    private static final String NO_STATION_FOR_EITHER = NO_STATION + ", for either argument";
    private static final String NO_RANK = "Throws `NoSuchElementException` if there is no such rank";

    private StationsTest() { }

    public static void main(String[] args) throws ReflectiveOperationException {
        Probe.run(StationsTest.class);
    }

    @Says(promise = 10, value = "Returns the time.")
    static void time(Probe p) {
        MetroFares x = new MetroFares();
        p.same("at first", 0, x.time());
        x.advance(1);
        p.same("a minute", 1, x.time());
        x.advance(2000);
        p.same("more than a day", 2001, x.time());
        x.undo();
        p.same("undone", 1, x.time());
    }

    @Says(promise = 11, value = "Returns the day.")
    static void day(Probe p) {
        MetroFares x = new MetroFares();
        for (int minute : new int[] {0, 1439, 1440, 2879, 2880, 14399, 14400}) {
            Metros.passTo(x, minute);
            p.same("minute " + minute, minute / 1440, x.day());
        }
    }

    @Says(promise = 12, value = "Returns the zone of a station.")
    static void zone(Probe p) {
        MetroFares x = new MetroFares();
        x.setZone(0, 6);
        x.setZone(11, 1);
        p.same("first", 6, x.zone(0));
        p.same("second", 1, x.zone(1));
        p.same("last but one", 6, x.zone(10));
        p.same("last", 1, x.zone(11));
    }

    @Says(promise = 12, value = NO_STATION)
    static void zoneNowhere(Probe p) {
        p.takesStations(MetroFares::zone);
    }

    private static int differentSigns(String zones, int from, int to) {
        return (int) zones.substring(Math.min(from, to), Math.max(from, to) + 1).chars().distinct().count();
    }

    @Says(promise = 13, value = "Returns the zone count of a trip, found by marking the zones of all stations.")
    static void zoneCount(Probe p) {
        for (String zones : Metros.ZONES) {
            MetroFares x = Metros.zoned(zones);
            for (int from = 0; from < 12; from++) {
                for (int to = 0; to < 12; to++) {
                    p.same(zones + " " + from + " " + to, differentSigns(zones, from, to), x.zoneCount(from, to));
                }
            }
        }
    }

    @Says(promise = 13, value = NO_STATION_FOR_EITHER)
    static void zoneCountNowhere(Probe p) {
        p.takesStations((x, station) -> x.zoneCount(station, 5));
        p.takesStations((x, station) -> x.zoneCount(5, station));
        p.takesStations((x, station) -> x.zoneCount(station, station));
    }

    @Says(promise = 14, value = "Returns the same number as zoneCount, found by comparing each station with the ones "
            + "before it.")
    static void zoneCountByComparing(Probe p) {
        for (String zones : Metros.ZONES) {
            MetroFares x = Metros.zoned(zones);
            for (int from = 0; from < 12; from++) {
                for (int to = 0; to < 12; to++) {
                    int due = differentSigns(zones, from, to);
                    p.same(zones + " " + from + " " + to, due, x.zoneCountByComparing(from, to));
                }
            }
        }
    }

    @Says(promise = 14, value = NO_STATION_FOR_EITHER)
    static void zoneCountByComparingNowhere(Probe p) {
        p.takesStations((x, station) -> x.zoneCountByComparing(station, 5));
        p.takesStations((x, station) -> x.zoneCountByComparing(5, station));
        p.takesStations((x, station) -> x.zoneCountByComparing(station, station));
    }

    @Says(promise = 15, value = "Returns the fare of a trip for a full card.")
    static void fare(Probe p) {
        MetroFares x = Metros.with("r");
        p.same("one zone", 200, x.fare(4, 5));
        p.same("two zones", 250, x.fare(5, 6));
        p.same("six zones", 450, x.fare(11, 0));
        x.setFares(999, 99);
        p.same("above the cap", 999 + 495, x.fare(0, 11));
        x.setFares(0, 0);
        p.same("nothing", 0, x.fare(0, 11));
    }

    @Says(promise = 15, value = NO_STATION_FOR_EITHER)
    static void fareNowhere(Probe p) {
        p.takesStations((x, station) -> x.fare(station, 5));
        p.takesStations((x, station) -> x.fare(5, station));
        p.takesStations((x, station) -> x.fare(station, station));
    }

    @Says(promise = 16, value = "Returns the base fare.")
    static void baseFare(Probe p) {
        MetroFares x = new MetroFares();
        p.same("initially", 200, x.baseFare());
        for (int base : new int[] {0, 1, 999}) {
            x.setFares(base, 50);
            p.same("set", base, x.baseFare());
        }
    }

    @Says(promise = 17, value = "Returns the zone fare.")
    static void zoneFare(Probe p) {
        MetroFares x = new MetroFares();
        p.same("initially", 50, x.zoneFare());
        for (int zone : new int[] {0, 1, 99}) {
            x.setFares(200, zone);
            p.same("set", zone, x.zoneFare());
        }
    }

    @Says(promise = 18, value = "Returns the default fare for a full card.")
    static void defaultFare(Probe p) {
        MetroFares x = Metros.with("r");
        p.same("initially", 450, x.defaultFare());
        x.setFares(999, 99);
        p.same("above the cap", 1494, x.defaultFare());
        x.setFares(0, 0);
        p.same("nothing", 0, x.defaultFare());
    }

    @Says(promise = 19, value = "Returns how often cards have tapped in or out at a station.")
    static void taps(Probe p) {
        MetroFares x = Metros.with("fr");
        p.same("at first", 0, x.taps(3));
        x.tapIn(0, 3);
        p.same("in", 1, x.taps(3));
        x.tapOut(0, 3);
        p.same("out", 2, x.taps(3));
        x.tapIn(1, 3);
        p.same("another card", 3, x.taps(3));
        x.tapIn(1, 3);
        p.same("in again", 4, x.taps(3));
        x.advance(180);
        p.same("180 minutes are no tap", 4, x.taps(3));
        x.repair(1, 3);
        p.same("a repair is no tap", 4, x.taps(3));
        p.refused("no trip", IllegalStateException.class, () -> x.tapOut(1, 3));
        p.same("a refused one is no tap", 4, x.taps(3));
        p.same("the next station", 0, x.taps(4));
    }

    @Says(promise = 19, value = NO_STATION)
    static void tapsNowhere(Probe p) {
        p.takesStations(MetroFares::taps);
    }

    private static String stationsByTaps(MetroFares x) {
        StringBuilder text = new StringBuilder();
        for (int rank = 0; rank < 12; rank++) {
            text.append(x.stationByTaps(rank)).append(' ');
        }
        return text.toString();
    }

    @Says(promise = 20, value = "Returns the station at a rank when stations are sorted by taps in descending order, then "
            + "by number in ascending order.")
    static void stationByTaps(Probe p) {
        MetroFares x = Metros.with("ffff");
        p.same("no taps", "0 1 2 3 4 5 6 7 8 9 10 11 ", stationsByTaps(x));
        x.tapIn(0, 11);
        p.same("one tap", "11 0 1 2 3 4 5 6 7 8 9 10 ", stationsByTaps(x));
        x.tapIn(1, 4);
        p.same("a tie", "4 11 0 1 2 3 5 6 7 8 9 10 ", stationsByTaps(x));
        x.tapOut(1, 11);
        p.same("one more", "11 4 0 1 2 3 5 6 7 8 9 10 ", stationsByTaps(x));
        x.tapIn(2, 0);
        p.same("a tie", "11 0 4 1 2 3 5 6 7 8 9 10 ", stationsByTaps(x));
        x.tapOut(2, 0);
        p.same("a tie of two", "0 11 4 1 2 3 5 6 7 8 9 10 ", stationsByTaps(x));
    }

    @Says(promise = 20, value = NO_RANK)
    static void noStationRank(Probe p) {
        for (int rank : new int[] {-1, 12, 13, Integer.MIN_VALUE, Integer.MAX_VALUE}) {
            p.refusedWhenBusy("rank " + rank, ELEMENT, x -> x.stationByTaps(rank));
        }
        p.same("rank 0", 0, new MetroFares().stationByTaps(0));
        p.same("rank 11", 11, new MetroFares().stationByTaps(11));
    }
}
