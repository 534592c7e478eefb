import java.util.NoSuchElementException;

/** A fare system for a metro with cards, zones, transfers, daily caps and repairs of incomplete trips. */
public final class MetroFares {
    private static final int STATION_COUNT = 12;
    private static final int LAST_ZONE = 6;
    private static final int MAX_CARDS = 8;
    private static final int MAX_BALANCE = 20000;
    private static final int MAX_LOAD = 9999;
    private static final int LEAST_BALANCE_TO_TAP_IN = -500;
    private static final int MAX_BASE_FARE = 999;
    private static final int MAX_ZONE_FARE = 99;
    private static final int DEFAULT_ZONE_FARES = 5;
    private static final int FULL_CAP = 700;
    private static final int REDUCED_CAP = 350;
    private static final int MINUTES_OF_DAY = 1440;
    private static final int MINUTES_OF_TRIP = 180;
    private static final int MINUTES_TO_TRANSFER = 15;
    private static final int MAX_MINUTES = 2000;
    private static final int DAYS_BACK = 2;
    private static final int DAYS_KEPT = 3;
    private static final int MAX_SCRIPT = 60;
    private static final int MAX_COMMANDS = 10;
    private static final int MAX_DIGITS = 4;
    private static final int MAX_UNDO = 8;
    private static final int NONE = -1;

    private static final int ISSUE = 0;
    private static final int LOAD = 1;
    private static final int TAP_IN = 2;
    private static final int TAP_OUT = 3;
    private static final int REPAIR = 4;
    private static final int SET_ZONE = 5;
    private static final int SET_FARES = 6;
    private static final int ADVANCE = 7;

    private static final int NO_PROBLEM = 0;
    private static final int BAD_INDEX = 1;
    private static final int BAD_ARGUMENT = 2;
    private static final int BAD_STATE = 3;
    private static final int NO_ELEMENT = 4;
    private static final int UNSUPPORTED = 5;

    private final Metro[] history;
    private final Metro snapshot;
    private final StringBuilder output;
    private final StringBuilder script;
    private final ScriptReader reader;
    private Metro now;
    private Metro spare;
    private int undoCount;
    private boolean hasSnapshot;
    private int latestErrorPosition;
    private int latestFailedCommand;

    public MetroFares() {
        now = new Metro();
        spare = new Metro();
        snapshot = new Metro();
        history = new Metro[MAX_UNDO];
        for (int i = 0; i < MAX_UNDO; i++) {
            history[i] = new Metro();
        }
        output = new StringBuilder();
        script = new StringBuilder();
        reader = new ScriptReader();
        latestErrorPosition = NONE;
        latestFailedCommand = NONE;
    }

    // ---- changes

    public int issueCard(boolean isReduced) throws IllegalStateException {
        return change(ISSUE, isReduced ? 1 : 0, 0);
    }

    public int load(int card, int cents)
            throws IndexOutOfBoundsException, IllegalArgumentException, UnsupportedOperationException {
        return change(LOAD, card, cents);
    }

    public boolean tapIn(int card, int station) throws IndexOutOfBoundsException, IllegalStateException {
        return change(TAP_IN, card, station) == 1;
    }

    public int tapOut(int card, int station) throws IndexOutOfBoundsException, IllegalStateException {
        return change(TAP_OUT, card, station);
    }

    public int repair(int card, int station)
            throws IndexOutOfBoundsException, NoSuchElementException, IllegalStateException {
        return change(REPAIR, card, station);
    }

    public int setZone(int station, int zone) throws IndexOutOfBoundsException, IllegalArgumentException {
        return change(SET_ZONE, station, zone);
    }

    public int setFares(int baseFare, int zoneFare) throws IllegalArgumentException {
        return change(SET_FARES, baseFare, zoneFare);
    }

    public int advance(int minutes) throws IllegalArgumentException {
        return change(ADVANCE, minutes, 0);
    }

    // ---- time, stations and fares

    public int time() {
        return now.minute;
    }

    public int day() {
        return now.presentDay();
    }

    public int zone(int station) throws IndexOutOfBoundsException {
        requireStation(station);
        return now.line.zones[station];
    }

    public int zoneCount(int from, int to) throws IndexOutOfBoundsException {
        requireStation(from);
        requireStation(to);
        return now.line.countByMarking(from, to);
    }

    public int zoneCountByComparing(int from, int to) throws IndexOutOfBoundsException {
        requireStation(from);
        requireStation(to);
        return now.line.countByPairs(from, to);
    }

    public int fare(int from, int to) throws IndexOutOfBoundsException {
        requireStation(from);
        requireStation(to);
        return now.line.fullFare(from, to);
    }

    public int baseFare() {
        return now.line.base;
    }

    public int zoneFare() {
        return now.line.perZone;
    }

    public int defaultFare() {
        return now.line.fullDefault();
    }

    public int taps(int station) throws IndexOutOfBoundsException {
        requireStation(station);
        return now.line.tapCounts[station];
    }

    public int stationByTaps(int rank) throws NoSuchElementException {
        for (int station = 0; station < STATION_COUNT; station++) {
            if (now.line.rankByTaps(station) == rank) {
                return station;
            }
        }
        throw new NoSuchElementException("no such rank");
    }

    // ---- cards and trips

    public int cardCount() {
        return now.issued;
    }

    public boolean isReduced(int card) throws IndexOutOfBoundsException {
        requireCard(card);
        return now.cards[card].reduced;
    }

    public int balance(int card) throws IndexOutOfBoundsException {
        requireCard(card);
        return now.cards[card].cents;
    }

    public boolean isOnTrip(int card) throws IndexOutOfBoundsException {
        requireCard(card);
        return now.cards[card].onTrip;
    }

    public int tripStart(int card) throws IndexOutOfBoundsException, NoSuchElementException {
        requireTrip(card);
        return now.cards[card].tripStation;
    }

    public int journeyStart(int card) throws IndexOutOfBoundsException, NoSuchElementException {
        requireTrip(card);
        return now.cards[card].journeyStation;
    }

    public int minutesLeft(int card) throws IndexOutOfBoundsException, NoSuchElementException {
        requireTrip(card);
        return now.cards[card].tripEnd() - now.minute;
    }

    public boolean wouldContinue(int card, int station) throws IndexOutOfBoundsException {
        requireCard(card);
        requireStation(station);
        return now.cards[card].continuesAt(station, now.minute);
    }

    public int chargeIfTappedOut(int card, int station) throws IndexOutOfBoundsException, NoSuchElementException {
        requireStation(station);
        requireTrip(card);
        return now.cards[card].tripCharge(now.line, station, now.presentDay());
    }

    public int chargedOn(int card, int day) throws IndexOutOfBoundsException, IllegalArgumentException {
        requireCard(card);
        requireRecentDay(day);
        return now.cards[card].sumOf(day);
    }

    public int chargedOnByRecords(int card, int day) throws IndexOutOfBoundsException, IllegalArgumentException {
        requireCard(card);
        requireRecentDay(day);
        return now.cards[card].sumOfRecords(day);
    }

    public int leftUnderCap(int card) throws IndexOutOfBoundsException {
        requireCard(card);
        return now.cards[card].leftOn(now.presentDay());
    }

    public boolean isRepairable(int card) throws IndexOutOfBoundsException {
        requireCard(card);
        return now.cards[card].unrepaired && now.isInTimeToRepair(card);
    }

    public int cardBySpending(int rank) throws NoSuchElementException {
        for (int card = 0; card < now.issued; card++) {
            if (now.rankBySpending(card) == rank) {
                return card;
            }
        }
        throw new NoSuchElementException("no such rank");
    }

    // ---- totals and checks

    public int loadedTotal() {
        return now.loaded;
    }

    public int chargedTotal() {
        return now.charged;
    }

    public int paidBackTotal() {
        return now.paidBack;
    }

    public int completeTrips() {
        return now.complete;
    }

    public int incompleteTrips() {
        return now.incomplete;
    }

    public double meanCharge() throws ArithmeticException {
        int trips = now.complete + now.incomplete;
        if (trips == 0) {
            throw new ArithmeticException("no trip yet");
        }
        return (double) now.charged / (double) trips;
    }

    public long meanChargeBits() throws ArithmeticException {
        return bitsOfDouble(meanCharge());
    }

    public float incompleteShare() throws ArithmeticException {
        int trips = now.complete + now.incomplete;
        if (trips == 0) {
            throw new ArithmeticException("no trip yet");
        }
        return (float) now.incomplete / (float) trips;
    }

    public int incompleteShareBits() throws ArithmeticException {
        return bitsOfShare(incompleteShare());
    }

    public boolean isConsistent() {
        return now.line.countsAgree() && now.sumsAgree() && now.balancesAgree();
    }

    // ---- output and scripts

    public int renderCard(int card) throws IndexOutOfBoundsException {
        requireCard(card);
        Card shown = now.cards[card];
        output.setLength(0);
        output.append(card);
        output.append(shown.reduced ? 'r' : 'f');
        output.append(':');
        output.append(shown.cents);
        if (shown.onTrip) {
            output.append('@');
            output.append(shown.tripStation);
        }
        return output.length();
    }

    public int renderZones() {
        output.setLength(0);
        for (int station = 0; station < STATION_COUNT; station++) {
            output.append(now.line.zones[station]);
        }
        return output.length();
    }

    public char outputAt(int index) throws IndexOutOfBoundsException {
        if (index < 0 || index >= output.length()) {
            throw new IndexOutOfBoundsException("no such index");
        }
        return output.charAt(index);
    }

    public int type(char character) throws IllegalArgumentException, IllegalStateException {
        if (character < 32 || character > 126) {
            throw new IllegalArgumentException("no printable character");
        }
        if (script.length() >= MAX_SCRIPT) {
            throw new IllegalStateException("the script buffer is full");
        }
        script.append(character);
        return script.length();
    }

    public int runScript() throws IllegalArgumentException, IllegalStateException {
        boolean hasForm = reader.readScript(script);
        script.setLength(0);
        if (!hasForm) {
            latestErrorPosition = reader.position;
            throw new IllegalArgumentException("not the form of a script");
        }
        spare.copyFrom(now);
        int failed = firstFailedCommand();
        if (failed != NONE) {
            takeBackToSpare();
            latestFailedCommand = failed;
            throw new IllegalStateException("a command failed");
        }
        pushSpare();
        return reader.commandCount;
    }

    public int errorPosition() throws NoSuchElementException {
        if (latestErrorPosition == NONE) {
            throw new NoSuchElementException("no script without the form");
        }
        return latestErrorPosition;
    }

    public int failedCommand() throws NoSuchElementException {
        if (latestFailedCommand == NONE) {
            throw new NoSuchElementException("no script with a failed command");
        }
        return latestFailedCommand;
    }

    public int undo() throws NoSuchElementException {
        if (undoCount <= 0) {
            throw new NoSuchElementException("nothing to undo");
        }
        undoCount--;
        Metro undone = now;
        now = history[undoCount];
        history[undoCount] = undone;
        return undoCount;
    }

    public int save() {
        snapshot.copyFrom(now);
        hasSnapshot = true;
        return now.issued;
    }

    public int restore() throws IllegalStateException {
        if (!hasSnapshot) {
            throw new IllegalStateException("no snapshot");
        }
        now.copyFrom(snapshot);
        undoCount = 0;
        return now.issued;
    }

    // ---- what the calls share

    private int change(int kind, int first, int second) {
        refuse(now.problemOf(kind, first, second));
        spare.copyFrom(now);
        pushSpare();
        return now.perform(kind, first, second);
    }

    private static void refuse(int problem) {
        switch (problem) {
            case BAD_INDEX:
                throw new IndexOutOfBoundsException("no such card or station");
            case BAD_ARGUMENT:
                throw new IllegalArgumentException("a value outside its bounds");
            case BAD_STATE:
                throw new IllegalStateException("not possible now");
            case NO_ELEMENT:
                throw new NoSuchElementException("no trip to repair");
            case UNSUPPORTED:
                throw new UnsupportedOperationException("more than a card can hold");
            default:
                break;
        }
    }

    /** Makes the spare copy the latest state to go back to; the oldest one becomes the spare copy if there are 8. */
    private void pushSpare() {
        Metro pushed = spare;
        if (undoCount < MAX_UNDO) {
            spare = history[undoCount];
            history[undoCount] = pushed;
            undoCount++;
            return;
        }
        spare = history[0];
        for (int i = 1; i < MAX_UNDO; i++) {
            history[i - 1] = history[i];
        }
        history[MAX_UNDO - 1] = pushed;
    }

    private void takeBackToSpare() {
        Metro discarded = now;
        now = spare;
        spare = discarded;
    }

    /** Executes the commands that were read until one fails, whose index is returned, or NONE. */
    private int firstFailedCommand() {
        for (int i = 0; i < reader.commandCount && i < MAX_COMMANDS; i++) {
            int kind = reader.kinds[i];
            int first = reader.firsts[i];
            int second = reader.seconds[i];
            if (now.problemOf(kind, first, second) != NO_PROBLEM) {
                return i;
            }
            now.perform(kind, first, second);
        }
        return NONE;
    }

    private void requireCard(int card) {
        if (!now.hasCard(card)) {
            throw new IndexOutOfBoundsException("no such card");
        }
    }

    private static void requireStation(int station) {
        if (!Line.hasStation(station)) {
            throw new IndexOutOfBoundsException("no such station");
        }
    }

    private void requireTrip(int card) {
        requireCard(card);
        if (!now.cards[card].onTrip) {
            throw new NoSuchElementException("the card is not on a trip");
        }
    }

    private void requireRecentDay(int day) {
        int today = now.presentDay();
        if (day < 0 || day > today || day < today - DAYS_BACK) {
            throw new IllegalArgumentException("no recent day");
        }
    }

    // The library's functions for bits are outside LANGUAGE.md; the steps below lose nothing,
    // since they multiply and divide by powers of two alone.
    private static long bitsOfDouble(double value) {
        if (value <= 0.0) {
            return 0L;
        }
        double scaled = value;
        int exponent = 0;
        for (int i = 0; i < 2000 && scaled >= 2.0; i++) {
            scaled = scaled / 2.0;
            exponent++;
        }
        for (int i = 0; i < 2000 && scaled < 1.0; i++) {
            scaled = scaled * 2.0;
            exponent--;
        }
        long fraction = (long) ((scaled - 1.0) * 4503599627370496.0);
        return ((long) (exponent + 1023) << 52) | fraction;
    }

    // A share is at most 1, so it only ever needs to be doubled.
    private static int bitsOfShare(float share) {
        if (share <= 0.0f) {
            return 0;
        }
        float scaled = share;
        int exponent = 0;
        for (int i = 0; i < 300 && scaled < 1.0f; i++) {
            scaled = scaled * 2.0f;
            exponent--;
        }
        int fraction = (int) ((scaled - 1.0f) * 8388608.0f);
        return ((exponent + 127) << 23) | fraction;
    }

    /** The stations with their zones and taps, and the fares between them. */
    private static final class Line {
        final int[] zones;
        final int[] tapCounts;
        int base;
        int perZone;

        Line() {
            zones = new int[STATION_COUNT];
            tapCounts = new int[STATION_COUNT];
            for (int station = 0; station < STATION_COUNT; station++) {
                zones[station] = station / 2 + 1;
            }
            base = 200;
            perZone = 50;
        }

        static boolean hasStation(int station) {
            return station >= 0 && station < STATION_COUNT;
        }

        void copyFrom(Line other) {
            System.arraycopy(other.zones, 0, zones, 0, STATION_COUNT);
            System.arraycopy(other.tapCounts, 0, tapCounts, 0, STATION_COUNT);
            base = other.base;
            perZone = other.perZone;
        }

        int countByMarking(int from, int to) {
            int last = Math.max(from, to);
            int marks = 0;
            for (int station = Math.min(from, to); station <= last; station++) {
                marks |= 1 << zones[station];
            }
            return Integer.bitCount(marks);
        }

        int countByPairs(int from, int to) {
            int first = Math.min(from, to);
            int last = Math.max(from, to);
            int count = 0;
            for (int station = first; station <= last; station++) {
                boolean isNew = true;
                for (int before = first; before < station; before++) {
                    if (zones[before] == zones[station]) {
                        isNew = false;
                    }
                }
                if (isNew) {
                    count++;
                }
            }
            return count;
        }

        boolean countsAgree() {
            for (int from = 0; from < STATION_COUNT; from++) {
                for (int to = 0; to < STATION_COUNT; to++) {
                    if (countByMarking(from, to) != countByPairs(from, to)) {
                        return false;
                    }
                }
            }
            return true;
        }

        int fullFare(int from, int to) {
            return base + perZone * (countByMarking(from, to) - 1);
        }

        int fullDefault() {
            return base + DEFAULT_ZONE_FARES * perZone;
        }

        int rankByTaps(int station) {
            int rank = 0;
            for (int other = 0; other < STATION_COUNT; other++) {
                boolean isTie = tapCounts[other] == tapCounts[station];
                if (tapCounts[other] > tapCounts[station] || isTie && other < station) {
                    rank++;
                }
            }
            return rank;
        }
    }

    /** A charge to a card (or, with negative cents, a payment back) that counts for a day; never changed. */
    private static final class Entry {
        final int day;
        final int cents;
        final Entry earlier;

        Entry(int day, int cents, Entry earlier) {
            this.day = day;
            this.cents = cents;
            this.earlier = earlier;
        }
    }

    /** A card with its present trip, its journey, its latest incomplete trip and its charges. */
    private static final class Card {
        boolean reduced;
        int cents;
        boolean onTrip;
        int tripStation;
        int tripMinute;
        int journeyStation;
        int journeyCents;
        boolean lastComplete;
        int lastStation;
        int lastMinute;
        boolean unrepaired;
        int incompleteStation;
        int incompleteDay;
        int incompleteCents;
        // A day's sum stands at its number modulo 3, until the day 3 days later takes the place.
        final int[] sumDays;
        final int[] sums;
        Entry latestEntry;

        Card() {
            sumDays = new int[DAYS_KEPT];
            sums = new int[DAYS_KEPT];
        }

        void startAnew(boolean isReducedCard) {
            reduced = isReducedCard;
            cents = 0;
            onTrip = false;
            lastComplete = false;
            unrepaired = false;
            for (int i = 0; i < DAYS_KEPT; i++) {
                sumDays[i] = NONE;
            }
            latestEntry = null;
        }

        void copyFrom(Card other) {
            reduced = other.reduced;
            cents = other.cents;
            onTrip = other.onTrip;
            tripStation = other.tripStation;
            tripMinute = other.tripMinute;
            journeyStation = other.journeyStation;
            journeyCents = other.journeyCents;
            lastComplete = other.lastComplete;
            lastStation = other.lastStation;
            lastMinute = other.lastMinute;
            unrepaired = other.unrepaired;
            incompleteStation = other.incompleteStation;
            incompleteDay = other.incompleteDay;
            incompleteCents = other.incompleteCents;
            System.arraycopy(other.sumDays, 0, sumDays, 0, DAYS_KEPT);
            System.arraycopy(other.sums, 0, sums, 0, DAYS_KEPT);
            latestEntry = other.latestEntry;
        }

        int dailyCap() {
            return reduced ? REDUCED_CAP : FULL_CAP;
        }

        int ownPrice(int fullPrice) {
            return reduced ? fullPrice / 2 : fullPrice;
        }

        int sumOf(int day) {
            int place = Math.floorMod(day, DAYS_KEPT);
            return sumDays[place] == day ? sums[place] : 0;
        }

        int sumOfRecords(int day) {
            int sum = 0;
            for (Entry entry = latestEntry; entry != null; entry = entry.earlier) {
                if (entry.day == day) {
                    sum += entry.cents;
                }
            }
            return sum;
        }

        int leftOn(int day) {
            return dailyCap() - sumOf(day);
        }

        int tripEnd() {
            return tripMinute + MINUTES_OF_TRIP;
        }

        boolean continuesAt(int station, int minute) {
            return !onTrip && lastComplete && lastStation == station
                    && minute - lastMinute <= MINUTES_TO_TRANSFER;
        }

        int tripCharge(Line line, int station, int day) {
            int open = ownPrice(line.fullFare(journeyStation, station)) - journeyCents;
            return Math.min(Math.max(open, 0), leftOn(day));
        }

        void enter(int day, int amount) {
            int place = Math.floorMod(day, DAYS_KEPT);
            if (sumDays[place] != day) {
                sumDays[place] = day;
                sums[place] = 0;
            }
            sums[place] += amount;
            cents -= amount;
            latestEntry = new Entry(day, amount, latestEntry);
        }

        boolean beginTrip(int station, int minute) {
            boolean continues = continuesAt(station, minute);
            if (!continues) {
                journeyStation = station;
                journeyCents = 0;
            }
            onTrip = true;
            tripStation = station;
            tripMinute = minute;
            return continues;
        }

        void completeTrip(int station, int minute, int amount) {
            journeyCents += amount;
            onTrip = false;
            lastComplete = true;
            lastStation = station;
            lastMinute = minute;
        }

        void breakTrip(int day, int amount) {
            onTrip = false;
            lastComplete = false;
            unrepaired = true;
            incompleteStation = tripStation;
            incompleteDay = day;
            incompleteCents = amount;
        }
    }

    /** Everything that undo and the snapshot cover. */
    private static final class Metro {
        final Line line;
        final Card[] cards;
        int issued;
        int minute;
        int loaded;
        int charged;
        int paidBack;
        int complete;
        int incomplete;

        Metro() {
            line = new Line();
            cards = new Card[MAX_CARDS];
            for (int card = 0; card < MAX_CARDS; card++) {
                cards[card] = new Card();
            }
        }

        void copyFrom(Metro other) {
            line.copyFrom(other.line);
            issued = other.issued;
            for (int card = 0; card < issued && card < MAX_CARDS; card++) {
                cards[card].copyFrom(other.cards[card]);
            }
            minute = other.minute;
            loaded = other.loaded;
            charged = other.charged;
            paidBack = other.paidBack;
            complete = other.complete;
            incomplete = other.incomplete;
        }

        boolean hasCard(int card) {
            return card >= 0 && card < issued && card < MAX_CARDS;
        }

        int presentDay() {
            return minute / MINUTES_OF_DAY;
        }

        boolean isInTimeToRepair(int card) {
            return presentDay() - cards[card].incompleteDay <= DAYS_BACK;
        }

        int problemOf(int kind, int first, int second) {
            switch (kind) {
                case ISSUE:
                    return issued >= MAX_CARDS ? BAD_STATE : NO_PROBLEM;
                case LOAD:
                    return problemOfLoad(first, second);
                case TAP_IN:
                    return problemOfTapIn(first, second);
                case TAP_OUT:
                    return problemOfTapOut(first, second);
                case REPAIR:
                    return problemOfRepair(first, second);
                case SET_ZONE:
                    return problemOfZone(first, second);
                case SET_FARES:
                    return problemOfFares(first, second);
                default:
                    return first < 1 || first > MAX_MINUTES ? BAD_ARGUMENT : NO_PROBLEM;
            }
        }

        int problemOfLoad(int card, int amount) {
            if (!hasCard(card)) {
                return BAD_INDEX;
            }
            if (amount < 1 || amount > MAX_LOAD) {
                return BAD_ARGUMENT;
            }
            return cards[card].cents + amount > MAX_BALANCE ? UNSUPPORTED : NO_PROBLEM;
        }

        int problemOfTapIn(int card, int station) {
            if (!hasCard(card) || !Line.hasStation(station)) {
                return BAD_INDEX;
            }
            return cards[card].cents < LEAST_BALANCE_TO_TAP_IN ? BAD_STATE : NO_PROBLEM;
        }

        int problemOfTapOut(int card, int station) {
            if (!hasCard(card) || !Line.hasStation(station)) {
                return BAD_INDEX;
            }
            return cards[card].onTrip ? NO_PROBLEM : BAD_STATE;
        }

        int problemOfRepair(int card, int station) {
            if (!hasCard(card) || !Line.hasStation(station)) {
                return BAD_INDEX;
            }
            if (!cards[card].unrepaired) {
                return NO_ELEMENT;
            }
            return isInTimeToRepair(card) ? NO_PROBLEM : BAD_STATE;
        }

        static int problemOfZone(int station, int zoneNumber) {
            if (!Line.hasStation(station)) {
                return BAD_INDEX;
            }
            return zoneNumber < 1 || zoneNumber > LAST_ZONE ? BAD_ARGUMENT : NO_PROBLEM;
        }

        static int problemOfFares(int base, int perZone) {
            boolean isBaseRight = base >= 0 && base <= MAX_BASE_FARE;
            boolean isZoneRight = perZone >= 0 && perZone <= MAX_ZONE_FARE;
            return isBaseRight && isZoneRight ? NO_PROBLEM : BAD_ARGUMENT;
        }

        /** Carries out a change that problemOf has found free of problems; a boolean answer is 1 or 0. */
        int perform(int kind, int first, int second) {
            switch (kind) {
                case ISSUE:
                    return addCard(first == 1);
                case LOAD:
                    return addMoney(first, second);
                case TAP_IN:
                    return enterAt(first, second) ? 1 : 0;
                case TAP_OUT:
                    return leaveAt(first, second);
                case REPAIR:
                    return payBack(first, second);
                case SET_ZONE:
                    return changeZone(first, second);
                case SET_FARES:
                    return changeFares(first, second);
                default:
                    return passTime(first);
            }
        }

        int addCard(boolean isReducedCard) {
            int card = issued;
            cards[card].startAnew(isReducedCard);
            issued++;
            return card;
        }

        int addMoney(int card, int amount) {
            cards[card].cents += amount;
            loaded += amount;
            return cards[card].cents;
        }

        boolean enterAt(int card, int station) {
            Card tapped = cards[card];
            if (tapped.onTrip) {
                makeIncomplete(tapped, presentDay());
            }
            line.tapCounts[station]++;
            return tapped.beginTrip(station, minute);
        }

        int leaveAt(int card, int station) {
            Card tapped = cards[card];
            int amount = tapped.tripCharge(line, station, presentDay());
            tapped.enter(presentDay(), amount);
            tapped.completeTrip(station, minute, amount);
            line.tapCounts[station]++;
            charged += amount;
            complete++;
            return amount;
        }

        void makeIncomplete(Card broken, int day) {
            int amount = Math.min(broken.ownPrice(line.fullDefault()), broken.leftOn(day));
            broken.enter(day, amount);
            broken.breakTrip(day, amount);
            charged += amount;
            incomplete++;
        }

        int payBack(int card, int station) {
            Card repaired = cards[card];
            int due = repaired.ownPrice(line.fullFare(repaired.incompleteStation, station));
            int amount = Math.max(repaired.incompleteCents - due, 0);
            repaired.enter(repaired.incompleteDay, -amount);
            repaired.unrepaired = false;
            paidBack += amount;
            return amount;
        }

        int changeZone(int station, int zoneNumber) {
            int previous = line.zones[station];
            line.zones[station] = zoneNumber;
            return previous;
        }

        int changeFares(int base, int perZone) {
            int previous = line.base;
            line.base = base;
            line.perZone = perZone;
            return previous;
        }

        // No card's trip touches another card, and none begins while time passes:
        // one look at each card finds the same as one look at each minute.
        int passTime(int minutes) {
            int broken = 0;
            minute += minutes;
            for (int card = 0; card < issued && card < MAX_CARDS; card++) {
                if (cards[card].onTrip && cards[card].tripEnd() <= minute) {
                    makeIncomplete(cards[card], cards[card].tripEnd() / MINUTES_OF_DAY);
                    broken++;
                }
            }
            return broken;
        }

        int rankBySpending(int card) {
            int rank = 0;
            for (int other = 0; other < issued && other < MAX_CARDS; other++) {
                if (spentBefore(other, card)) {
                    rank++;
                }
            }
            return rank;
        }

        boolean spentBefore(int card, int other) {
            int spent = cards[card].sumOf(presentDay());
            int otherSpent = cards[other].sumOf(presentDay());
            if (spent != otherSpent) {
                return spent > otherSpent;
            }
            if (cards[card].cents != cards[other].cents) {
                return cards[card].cents < cards[other].cents;
            }
            return card < other;
        }

        boolean sumsAgree() {
            int today = presentDay();
            for (int card = 0; card < issued && card < MAX_CARDS; card++) {
                for (int day = Math.max(today - DAYS_BACK, 0); day <= today; day++) {
                    int sum = cards[card].sumOf(day);
                    if (sum != cards[card].sumOfRecords(day) || sum > cards[card].dailyCap()) {
                        return false;
                    }
                }
            }
            return true;
        }

        boolean balancesAgree() {
            int sum = 0;
            for (int card = 0; card < issued && card < MAX_CARDS; card++) {
                sum += cards[card].cents;
            }
            return sum == loaded - charged + paidBack;
        }
    }

    /** Reads a script; where it fails, its position is the error position. */
    private static final class ScriptReader {
        final int[] kinds;
        final int[] firsts;
        final int[] seconds;
        int commandCount;
        int position;
        int value;

        ScriptReader() {
            kinds = new int[MAX_COMMANDS];
            firsts = new int[MAX_COMMANDS];
            seconds = new int[MAX_COMMANDS];
        }

        // The shortest command has 6 characters, so 60 characters hold fewer commands than the loop allows.
        boolean readScript(StringBuilder text) {
            commandCount = 0;
            position = 0;
            for (int i = 0; i < MAX_COMMANDS; i++) {
                if (!readCommand(text)) {
                    return false;
                }
                if (position == text.length()) {
                    return true;
                }
                if (!readSign(text, ';')) {
                    return false;
                }
            }
            return false;
        }

        boolean readCommand(StringBuilder text) {
            if (position >= text.length()) {
                return false;
            }
            switch (text.charAt(position)) {
                case 'c':
                    return readWord(text, "card ") && readCardKind(text);
                case 'l':
                    return readWord(text, "load ") && readDigitAndNumber(text, LOAD);
                case 'i':
                    return readWord(text, "in ") && readDigitAndNumber(text, TAP_IN);
                case 'o':
                    return readWord(text, "out ") && readDigitAndNumber(text, TAP_OUT);
                case 'f':
                    return readWord(text, "fix ") && readDigitAndNumber(text, REPAIR);
                case 'z':
                    return readWord(text, "zone ") && readNumberAndDigit(text);
                case 'w':
                    return readWord(text, "wait ") && readMinutes(text);
                default:
                    return false;
            }
        }

        boolean readCardKind(StringBuilder text) {
            if (readSign(text, 'f')) {
                return keep(ISSUE, 0, 0);
            }
            return readSign(text, 'r') && keep(ISSUE, 1, 0);
        }

        boolean readDigitAndNumber(StringBuilder text, int kind) {
            if (!readNumber(text, 1)) {
                return false;
            }
            int card = value;
            return readSign(text, ' ') && readNumber(text, MAX_DIGITS) && keep(kind, card, value);
        }

        boolean readNumberAndDigit(StringBuilder text) {
            if (!readNumber(text, MAX_DIGITS)) {
                return false;
            }
            int station = value;
            return readSign(text, ' ') && readNumber(text, 1) && keep(SET_ZONE, station, value);
        }

        boolean readMinutes(StringBuilder text) {
            return readNumber(text, MAX_DIGITS) && keep(ADVANCE, value, 0);
        }

        boolean keep(int kind, int first, int second) {
            if (commandCount >= MAX_COMMANDS) {
                return false;
            }
            kinds[commandCount] = kind;
            firsts[commandCount] = first;
            seconds[commandCount] = second;
            commandCount++;
            return true;
        }

        boolean readWord(StringBuilder text, String word) {
            for (int i = 0; i < word.length(); i++) {
                if (!readSign(text, word.charAt(i))) {
                    return false;
                }
            }
            return true;
        }

        boolean readSign(StringBuilder text, char sign) {
            if (position >= text.length() || text.charAt(position) != sign) {
                return false;
            }
            position++;
            return true;
        }

        /** Reads one digit or more, up to the given count, into value. */
        boolean readNumber(StringBuilder text, int maxDigits) {
            int digits = 0;
            value = 0;
            for (int i = 0; i < maxDigits && isDigitNext(text); i++) {
                value = value * 10 + (text.charAt(position) - '0');
                position++;
                digits++;
            }
            return digits > 0;
        }

        boolean isDigitNext(StringBuilder text) {
            return position < text.length() && text.charAt(position) >= '0' && text.charAt(position) <= '9';
        }
    }
}
