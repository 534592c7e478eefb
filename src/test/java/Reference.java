import java.util.ArrayList;
import java.util.Collections;
import java.util.Comparator;
import java.util.HashSet;
import java.util.List;
import java.util.NoSuchElementException;
import java.util.regex.Matcher;
import java.util.regex.Pattern;

/**
 * The document once more, in another form: trips, charges and payments are kept as lists, time passes
 * minute by minute, undo and restore replay the changes from the start, and scripts are matched by a pattern.
 */
final class Reference {
    private static final Pattern SCRIPT = Pattern.compile("C(;C)*".replace("C",
            "(card [fr]|load [0-9] [0-9]{1,4}|(in|out|fix) [0-9] [0-9]{1,4}|zone [0-9]{1,4} [0-9]|wait [0-9]{1,4})"));

    private List<List<Object[]>> changes = new ArrayList<>();
    private List<List<Object[]>> saved;
    private int undoable;
    private World world = new World();
    private String output = "";
    private String script = "";
    private Integer errorPosition;
    private Integer failedCommand;

    Object call(String name, Object... args) {
        int a = args.length > 0 && args[0] instanceof Integer ? (Integer) args[0] : 0;
        int b = args.length > 1 ? (Integer) args[1] : 0;
        switch (name) {
            case "issueCard": case "load": case "tapIn": case "tapOut": case "repair":
            case "setZone": case "setFares": case "advance":
                return change(name, args);
            case "renderCard":
                return show(world.cardText(a));
            case "renderZones":
                return show(world.zoneText());
            case "outputAt":
                need(a >= 0 && a < output.length(), new IndexOutOfBoundsException());
                return output.charAt(a);
            case "type":
                return typed((Character) args[0]);
            case "runScript":
                return runScript();
            case "errorPosition":
                need(errorPosition != null, new NoSuchElementException());
                return errorPosition;
            case "failedCommand":
                need(failedCommand != null, new NoSuchElementException());
                return failedCommand;
            case "undo":
                need(undoable > 0, new NoSuchElementException());
                changes.remove(changes.size() - 1);
                undoable--;
                replay();
                return undoable;
            case "save":
                saved = new ArrayList<>(changes);
                return world.cards.size();
            case "restore":
                need(saved != null, new IllegalStateException());
                changes = new ArrayList<>(saved);
                undoable = 0;
                replay();
                return world.cards.size();
            default:
                return world.query(name, a, b);
        }
    }

    private static void need(boolean holds, RuntimeException otherwise) {
        if (!holds) {
            throw otherwise;
        }
    }

    private int show(String text) {
        output = text;
        return text.length();
    }

    private int typed(char character) {
        need(character >= ' ' && character <= '~', new IllegalArgumentException());
        need(script.length() < 60, new IllegalStateException());
        script += character;
        return script.length();
    }

    private Object change(String name, Object... args) {
        Object answer = world.apply(name, args);
        remember(List.<Object[]>of(new Object[] {name, args}));
        return answer;
    }

    private void remember(List<Object[]> change) {
        changes.add(change);
        undoable = Math.min(undoable + 1, 8);
    }

    private void replay() {
        world = new World();
        for (List<Object[]> change : changes) {
            for (Object[] step : change) {
                world.apply((String) step[0], (Object[]) step[1]);
            }
        }
    }

    private static boolean canStartScript(String text) {
        Matcher matcher = SCRIPT.matcher(text);
        return matcher.matches() || matcher.hitEnd();
    }

    private int runScript() {
        String text = script;
        script = "";
        if (!SCRIPT.matcher(text).matches()) {
            int position = 0;
            while (position < text.length() && canStartScript(text.substring(0, position + 1))) {
                position++;
            }
            errorPosition = position;
            throw new IllegalArgumentException();
        }
        List<Object[]> steps = new ArrayList<>();
        for (String command : text.split(";")) {
            Object[] step = stepOf(command.split(" "));
            try {
                world.apply((String) step[0], (Object[]) step[1]);
            } catch (RuntimeException e) {
                failedCommand = steps.size();
                replay();
                throw new IllegalStateException();
            }
            steps.add(step);
        }
        remember(steps);
        return steps.size();
    }

    private static Object[] stepOf(String[] words) {
        String name = words[0].replace("card", "issueCard").replace("in", "tapIn").replace("out", "tapOut")
                .replace("fix", "repair").replace("zone", "setZone").replace("wait", "advance");
        if (name.equals("issueCard")) {
            return new Object[] {name, new Object[] {words[1].equals("r")}};
        }
        Object[] args = new Object[words.length - 1];
        for (int i = 0; i < args.length; i++) {
            args[i] = Integer.parseInt(words[i + 1]);
        }
        return new Object[] {name, args};
    }

    private static final class Trip {
        final int from;
        final int began;
        final Trip previous;
        int to;
        int ended;
        int charge;
        boolean isOpen = true;
        boolean isComplete;
        boolean isRepaired;

        Trip(int from, int began, Trip previous) {
            this.from = from;
            this.began = began;
            this.previous = previous;
        }

        int journeyFrom() {
            return previous == null ? from : previous.journeyFrom();
        }

        int chargedBefore() {
            return previous == null ? 0 : previous.charge + previous.chargedBefore();
        }
    }

    private static final class Holder {
        final boolean reduced;
        final List<Trip> trips = new ArrayList<>();
        final List<int[]> payments = new ArrayList<>();
        int loads;

        Holder(boolean reduced) {
            this.reduced = reduced;
        }

        Trip last() {
            return trips.isEmpty() ? null : trips.get(trips.size() - 1);
        }

        boolean onTrip() {
            return !trips.isEmpty() && last().isOpen;
        }

        int spentOn(int day) {
            int sum = 0;
            for (Trip trip : trips) {
                sum += !trip.isOpen && trip.ended / 1440 == day ? trip.charge : 0;
            }
            for (int[] payment : payments) {
                sum -= payment[0] == day ? payment[1] : 0;
            }
            return sum;
        }

        int balance() {
            int sum = loads;
            for (Trip trip : trips) {
                sum -= trip.charge;
            }
            for (int[] payment : payments) {
                sum += payment[1];
            }
            return sum;
        }

        Trip latestIncomplete() {
            Trip found = null;
            for (Trip trip : trips) {
                found = trip.isOpen || trip.isComplete ? found : trip;
            }
            return found;
        }
    }

    private static final class World {
        final List<Holder> cards = new ArrayList<>();
        final int[] zones = {1, 1, 2, 2, 3, 3, 4, 4, 5, 5, 6, 6};
        final List<Integer> tapped = new ArrayList<>();
        int base = 200;
        int perZone = 50;
        int now;

        Holder card(int index) {
            need(index >= 0 && index < cards.size(), new IndexOutOfBoundsException());
            return cards.get(index);
        }

        static int station(int number) {
            need(number >= 0 && number < 12, new IndexOutOfBoundsException());
            return number;
        }

        int count(int from, int to) {
            HashSet<Integer> seen = new HashSet<>();
            for (int s = Math.min(station(from), station(to)); s <= Math.max(from, to); s++) {
                seen.add(zones[s]);
            }
            return seen.size();
        }

        int price(Holder card, int full) {
            return card.reduced ? full / 2 : full;
        }

        int fare(int from, int to) {
            return base + (count(from, to) - 1) * perZone;
        }

        int capped(Holder card, int charge) {
            return Math.min(charge, (card.reduced ? 350 : 700) - card.spentOn(now / 1440));
        }

        int exitCharge(Holder card, int to) {
            Trip trip = card.last();
            return capped(card, Math.max(0, price(card, fare(trip.journeyFrom(), to)) - trip.chargedBefore()));
        }

        boolean transfers(Holder card, int station) {
            Trip last = card.last();
            return last != null && !last.isOpen && last.isComplete && last.to == station && now - last.ended <= 15;
        }

        void breakTrip(Holder card) {
            Trip trip = card.last();
            trip.charge = capped(card, price(card, base + 5 * perZone));
            trip.ended = now;
            trip.isOpen = false;
        }

        Object apply(String name, Object... args) {
            if (name.equals("issueCard")) {
                need(cards.size() < 8, new IllegalStateException());
                cards.add(new Holder((Boolean) args[0]));
                return cards.size() - 1;
            }
            int a = (Integer) args[0];
            int b = args.length > 1 ? (Integer) args[1] : 0;
            switch (name) {
                case "load":
                    return load(card(a), b);
                case "tapIn":
                    return tapIn(card(a), station(b));
                case "tapOut":
                    return tapOut(card(a), station(b));
                case "repair":
                    return repair(card(a), station(b));
                case "setZone":
                    int zone = zones[station(a)];
                    need(b >= 1 && b <= 6, new IllegalArgumentException());
                    zones[a] = b;
                    return zone;
                case "setFares":
                    need(a >= 0 && a <= 999 && b >= 0 && b <= 99, new IllegalArgumentException());
                    int before = base;
                    base = a;
                    perZone = b;
                    return before;
                default:
                    return advance(a);
            }
        }

        int load(Holder card, int cents) {
            need(cents >= 1 && cents <= 9999, new IllegalArgumentException());
            need(card.balance() + cents <= 20000, new UnsupportedOperationException());
            card.loads += cents;
            return card.balance();
        }

        boolean tapIn(Holder card, int station) {
            need(card.balance() >= -500, new IllegalStateException());
            boolean continues = transfers(card, station);
            if (card.onTrip()) {
                breakTrip(card);
            }
            card.trips.add(new Trip(station, now, continues ? card.last() : null));
            tapped.add(station);
            return continues;
        }

        int tapOut(Holder card, int station) {
            need(card.onTrip(), new IllegalStateException());
            Trip trip = card.last();
            trip.charge = exitCharge(card, station);
            trip.to = station;
            trip.ended = now;
            trip.isOpen = false;
            trip.isComplete = true;
            tapped.add(station);
            return trip.charge;
        }

        int repair(Holder card, int station) {
            Trip trip = card.latestIncomplete();
            need(trip != null && !trip.isRepaired, new NoSuchElementException());
            need(now / 1440 <= trip.ended / 1440 + 2, new IllegalStateException());
            int paid = Math.max(0, trip.charge - price(card, fare(trip.from, station)));
            trip.isRepaired = true;
            card.payments.add(new int[] {trip.ended / 1440, paid});
            return paid;
        }

        int advance(int minutes) {
            need(minutes >= 1 && minutes <= 2000, new IllegalArgumentException());
            int broken = 0;
            for (int i = 0; i < minutes; i++) {
                now++;
                for (Holder card : cards) {
                    if (card.onTrip() && now - card.last().began == 180) {
                        breakTrip(card);
                        broken++;
                    }
                }
            }
            return broken;
        }

        String cardText(int index) {
            Holder card = card(index);
            return index + (card.reduced ? "r" : "f") + ":" + card.balance()
                    + (card.onTrip() ? "@" + card.last().from : "");
        }

        String zoneText() {
            String text = "";
            for (int zone : zones) {
                text += zone;
            }
            return text;
        }

        Object query(String name, int a, int b) {
            switch (name) {
                case "time":
                    return now;
                case "day":
                    return now / 1440;
                case "zone":
                    return zones[station(a)];
                case "zoneCount": case "zoneCountByComparing":
                    return count(a, b);
                case "fare":
                    return fare(a, b);
                case "baseFare":
                    return base;
                case "zoneFare":
                    return perZone;
                case "defaultFare":
                    return base + 5 * perZone;
                case "taps":
                    return Collections.frequency(tapped, station(a));
                case "stationByTaps":
                    return ranked(12, a, Comparator.comparing(s -> -Collections.frequency(tapped, s)));
                case "cardCount":
                    return cards.size();
                case "cardBySpending":
                    return ranked(cards.size(), a, Comparator
                            .<Integer, Integer>comparing(c -> -cards.get(c).spentOn(now / 1440))
                            .thenComparing(c -> cards.get(c).balance()));
                case "isConsistent":
                    return true;
                default:
                    return name.contains("Total") || name.contains("Trips") || name.contains("mean")
                            || name.contains("Share") ? total(name) : ofCard(name, card(a), b);
            }
        }

        static int ranked(int size, int rank, Comparator<Integer> order) {
            List<Integer> all = new ArrayList<>();
            for (int i = 0; i < size; i++) {
                all.add(i);
            }
            all.sort(order.thenComparing(Comparator.naturalOrder()));
            need(rank >= 0 && rank < size, new NoSuchElementException());
            return all.get(rank);
        }

        Object total(String name) {
            int loaded = 0;
            int charged = 0;
            int paid = 0;
            int complete = 0;
            int incomplete = 0;
            for (Holder card : cards) {
                loaded += card.loads;
                for (int[] payment : card.payments) {
                    paid += payment[1];
                }
                for (Trip trip : card.trips) {
                    charged += trip.charge;
                    complete += trip.isComplete ? 1 : 0;
                    incomplete += trip.isOpen || trip.isComplete ? 0 : 1;
                }
            }
            switch (name) {
                case "loadedTotal":
                    return loaded;
                case "chargedTotal":
                    return charged;
                case "paidBackTotal":
                    return paid;
                case "completeTrips":
                    return complete;
                case "incompleteTrips":
                    return incomplete;
                default:
                    need(complete + incomplete > 0, new ArithmeticException());
                    double mean = (double) charged / (double) (complete + incomplete);
                    float share = (float) incomplete / (float) (complete + incomplete);
                    return name.equals("meanCharge") ? (Object) mean
                            : name.equals("meanChargeBits") ? (Object) Double.doubleToLongBits(mean)
                            : name.equals("incompleteShare") ? (Object) share : (Object) Float.floatToIntBits(share);
            }
        }

        Object ofCard(String name, Holder card, int b) {
            Trip trip = card.onTrip() ? card.last() : null;
            switch (name) {
                case "isReduced":
                    return card.reduced;
                case "balance":
                    return card.balance();
                case "isOnTrip":
                    return trip != null;
                case "wouldContinue":
                    return transfers(card, station(b));
                case "chargedOn": case "chargedOnByRecords":
                    need(b >= 0 && b <= now / 1440 && b >= now / 1440 - 2, new IllegalArgumentException());
                    return card.spentOn(b);
                case "leftUnderCap":
                    return capped(card, 9999);
                case "isRepairable":
                    Trip broken = card.latestIncomplete();
                    return broken != null && !broken.isRepaired && now / 1440 - broken.ended / 1440 <= 2;
                case "chargeIfTappedOut":
                    station(b);
                    need(trip != null, new NoSuchElementException());
                    return exitCharge(card, b);
                case "tripStart":
                    need(trip != null, new NoSuchElementException());
                    return trip.from;
                case "journeyStart":
                    need(trip != null, new NoSuchElementException());
                    return trip.journeyFrom();
                case "minutesLeft":
                    need(trip != null, new NoSuchElementException());
                    return trip.began + 180 - now;
                default:
                    throw new AssertionError(name);
            }
        }
    }
}
