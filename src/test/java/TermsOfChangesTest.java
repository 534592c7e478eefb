import java.util.List;
import java.util.NoSuchElementException;
import java.util.function.Consumer;
import java.util.function.Function;

/** A test for each sentence of the Terms about scripts, changes and exceptions. */
final class TermsOfChangesTest {
    private static final Class<IndexOutOfBoundsException> INDEX = IndexOutOfBoundsException.class;
    private static final Class<IllegalArgumentException> ARGUMENT = IllegalArgumentException.class;
    private static final Class<IllegalStateException> STATE = IllegalStateException.class;
    private static final Class<NoSuchElementException> ELEMENT = NoSuchElementException.class;

    private static final List<Consumer<MetroFares>> CHANGES = List.of(
            x -> x.issueCard(true),
            x -> x.load(0, 1),
            x -> x.tapIn(0, 5),
            x -> x.tapIn(1, 5),
            x -> x.tapOut(1, 5),
            x -> x.repair(1, 5),
            x -> x.setZone(5, 1),
            x -> x.setFares(5, 6),
            x -> x.advance(3),
            x -> Metros.run(x, "load 2 5;wait 5"));

    private static final List<Consumer<MetroFares>> NO_CHANGES = List.of(
            MetroFares::save,
            MetroFares::renderZones,
            x -> x.renderCard(0),
            x -> x.type('c'),
            x -> Metros.run(x, "ward 1"),
            x -> Metros.run(x, "wait 0"),
            x -> Check.answerOf(() -> x.tapOut(0, 0)),
            x -> Check.answerOf(() -> x.advance(0)),
            View::of);

    private TermsOfChangesTest() { }

    public static void main(String[] args) throws ReflectiveOperationException {
        Probe.run(TermsOfChangesTest.class);
    }

    @Says("A script is typed into a buffer of at most 60 characters and then run.")
    static void scriptBuffer(Probe p) {
        String script = "wait 1;wait 1;wait 1;wait 1;wait 1;wait 1;wait 1;wait 1;zone";
        p.same("length", 60, script.length());
        p.refused("a 61st", () -> {
            MetroFares x = Metros.with("f");
            Metros.typeAll(x, script);
            return x;
        }, STATE, x -> x.type(' '));
        MetroFares x = Metros.with("f");
        Metros.typeAll(x, script.substring(0, 59));
        p.same("a 60th", 60, x.type('e'));
        p.refused("too early an end", ARGUMENT, x::runScript);
        p.same("too early an end", 60, x.errorPosition());
        String whole = "load 0 0001;load 0 0002;load 0 0003;load 0 04;in 0 00;wait 1";
        p.same("length", 60, whole.length());
        p.same("60 characters run", "6", Metros.run(x, whole));
        p.same("all of them", 10, x.balance(0));
        p.same("all of them", 1, x.time());
    }

    @Says("A number has at most 4 digits; a fifth digit cannot continue a script.")
    static void fourDigits(Probe p) {
        String[] starts = {"load 0 ", "in 0 ", "out 0 ", "fix 0 ", "zone ", "wait "};
        for (String start : starts) {
            for (String digits : new String[] {"0", "9999", "0000", "00001", "10000", "99999", "000000"}) {
                MetroFares x = new MetroFares();
                Metros.run(x, start + digits + "?");
                int due = start.length() + Math.min(digits.length(), 4);
                p.same(start + digits, due, x.errorPosition());
            }
        }
        for (String command : new String[] {"load ", "in ", "out ", "fix ", "zone 0 "}) {
            MetroFares x = new MetroFares();
            Metros.run(x, command + "00");
            p.same("a digit is one: " + command, command.length() + 1, x.errorPosition());
        }
        MetroFares y = new MetroFares();
        p.same("four digits", "1", Metros.run(y, "wait 1234"));
        p.same("four digits", 1234, y.time());
        p.same("one digit", "1", Metros.run(y, "wait 5"));
        p.same("one digit", 1239, y.time());
    }

    private static void standsFor(Probe p, String command, Consumer<MetroFares> call) {
        MetroFares scripted = Metros.untyped();
        MetroFares called = Metros.untyped();
        p.same(command, "1", Metros.run(scripted, command));
        call.accept(called);
        p.same(command, View.of(called), View.of(scripted));
        p.same(command, View.undone(called), View.undone(scripted));
    }

    @Says("The commands stand for issueCard (full for f, reduced for r), load, tapIn, tapOut, repair, setZone and advance, "
            + "with the arguments in the same order.")
    static void commands(Probe p) {
        standsFor(p, "card f", x -> x.issueCard(false));
        standsFor(p, "card r", x -> x.issueCard(true));
        standsFor(p, "load 2 1", x -> x.load(2, 1));
        standsFor(p, "load 1 9999", x -> x.load(1, 9999));
        standsFor(p, "in 0 5", x -> x.tapIn(0, 5));
        standsFor(p, "in 2 0001", x -> x.tapIn(2, 1));
        standsFor(p, "out 1 11", x -> x.tapOut(1, 11));
        standsFor(p, "fix 1 2", x -> x.repair(1, 2));
        standsFor(p, "zone 2 6", x -> x.setZone(2, 6));
        standsFor(p, "zone 0011 1", x -> x.setZone(11, 1));
        standsFor(p, "wait 1", x -> x.advance(1));
        standsFor(p, "wait 2000", x -> x.advance(2000));
    }

    @Says("The commands are executed in order, and either all of them take effect or none.")
    static void allOrNone(Probe p) {
        String[] fails = {"out 2 0", "load 0 0", "in 9 0", "wait 2001", "zone 12 1", "fix 0 0", "in 8 99"};
        String before = "card r;load 3 9999;zone 0 6;in 3 1;out 1 0;fix 1 0;";
        for (String fail : fails) {
            MetroFares twin = Metros.untyped();
            MetroFares x = Metros.untyped();
            p.same("none: " + fail, Check.thrown(STATE), Metros.run(x, before + fail));
            p.same("none: " + fail, 6, x.failedCommand());
            Metros.run(x, "wait 0");
            Metros.run(twin, "wait 0");
            p.same("none: " + fail, View.of(twin), View.of(x));
            p.same("none: " + fail, View.undone(twin), View.undone(x));
        }
        p.same("all", "6", Metros.run(Metros.untyped(), before.substring(0, before.length() - 1)));
        MetroFares x = Metros.with("f");
        p.same("in order", "4", Metros.run(x, "in 0 0;wait 1;out 0 3;in 0 3"));
        p.same("the later ones after the earlier ones", 0, x.journeyStart(0));
        p.same("the other order", Check.thrown(STATE), Metros.run(Metros.with("f"), "out 0 3;in 0 0"));
    }

    @Says("The error position of a script that does not have this form is the index of the first character that cannot "
            + "continue any script of this form, or the length of the script if every character can and the end comes "
            + "too early.")
    static void errorPosition(Probe p) {
        String script = "card r;load 0 12;in 0 1;out 0 2;fix 0 3;zone 4 5;wait 6";
        for (int end = 0; end < script.length(); end++) {
            MetroFares x = new MetroFares();
            String start = script.substring(0, end);
            String rest = script.substring(end);
            if (!isWhole(start)) {
                p.same("early end: " + start, Check.thrown(ARGUMENT), Metros.run(x, start));
                p.same("early end: " + start, end, x.errorPosition());
            }
            p.same("wrong sign after " + start, Check.thrown(ARGUMENT), Metros.run(x, start + "~" + rest));
            p.same("wrong sign after " + start, end, x.errorPosition());
        }
        MetroFares x = new MetroFares();
        p.same("wrong sign at the end", Check.thrown(ARGUMENT), Metros.run(x, script + "~"));
        p.same("wrong sign at the end", 55, x.errorPosition());
    }

    private static boolean isWhole(String start) {
        for (String end : new String[] {"card r", "load 0 1", "load 0 12", "in 0 1", "out 0 2", "fix 0 3", "zone 4 5"}) {
            if (start.endsWith(end)) {
                return true;
            }
        }
        return false;
    }

    // ---- changes and exceptions

    private static int undoes(MetroFares x) {
        for (int count = 0; count < 20; count++) {
            if (Check.answerOf(x::undo).equals(Check.thrown(ELEMENT))) {
                return count;
            }
        }
        return -1;
    }

    @Says("A change is a call of issueCard, load, tapIn, tapOut, repair, setZone, setFares, advance or runScript that "
            + "returns normally, even if the state is the same afterwards.")
    static void changes(Probe p) {
        MetroFares made = Metros.untyped();
        made.restore();
        p.same("none", 0, undoes(made));
        for (int i = 0; i < CHANGES.size(); i++) {
            MetroFares x = Metros.untyped();
            x.save();
            x.restore();
            CHANGES.get(i).accept(x);
            p.same("change " + i, 1, undoes(x));
        }
        for (int i = 0; i < NO_CHANGES.size(); i++) {
            MetroFares x = Metros.untyped();
            x.save();
            x.restore();
            NO_CHANGES.get(i).accept(x);
            p.same("no change " + i, 0, undoes(x));
        }
        MetroFares x = Metros.with("f");
        x.save();
        x.restore();
        x.setZone(0, 1);
        x.setFares(200, 50);
        Metros.run(x, "zone 0 1;zone 0 1");
        p.same("the same state afterwards", 3, undoes(x));
    }

    @Says("The latest 8 changes can be undone, the latest one first.")
    static void latestEight(Probe p) {
        for (int changes = 0; changes <= 12; changes++) {
            MetroFares x = new MetroFares();
            for (int i = 0; i < changes; i++) {
                x.setFares(i, 0);
            }
            int can = Math.min(changes, 8);
            for (int left = can - 1; left >= 0; left--) {
                p.same("changes " + changes, left, x.undo());
                int base = changes - can + left - 1;
                p.same("the latest first", base < 0 ? 200 : base, x.baseFare());
            }
            p.refused("changes " + changes, ELEMENT, x::undo);
        }
        MetroFares x = new MetroFares();
        for (int i = 0; i < 8; i++) {
            x.setFares(i, 0);
        }
        x.undo();
        x.undo();
        x.setFares(20, 0);
        p.same("an undone change is gone", 6, x.undo());
        p.same("an undone change is gone", 5, x.baseFare());
    }

    @Says("Undo and the snapshot cover everything except the script buffer, the error position, the index of the failed "
            + "command, the output text and the snapshot itself.")
    static void covered(Probe p) {
        for (int i = 0; i < CHANGES.size(); i++) {
            MetroFares x = Metros.untyped();
            String before = View.of(x);
            CHANGES.get(i).accept(x);
            p.same("change " + i + " shows", false, before.equals(View.of(x)));
            x.undo();
            p.same("undo of change " + i, before, View.of(x));
            MetroFares y = Metros.untyped();
            y.save();
            CHANGES.get(i).accept(y);
            y.restore();
            p.same("restore after change " + i, before, View.of(y));
        }
        journeyCovered(p, "undo", MetroFares::undo);
        journeyCovered(p, "restore", MetroFares::restore);
        notCovered(p, "undo", MetroFares::undo);
        notCovered(p, "restore", MetroFares::restore);
        MetroFares x = Metros.with("f");
        x.load(0, 5);
        x.save();
        x.undo();
        p.same("undo leaves the snapshot", 1, x.restore());
        p.same("undo leaves the snapshot", 5, x.balance(0));
        x.load(0, 6);
        x.restore();
        x.load(0, 7);
        x.restore();
        p.same("restore leaves the snapshot", 5, x.balance(0));
    }

    private static void journeyCovered(Probe p, String what, Function<MetroFares, Object> back) {
        MetroFares x = Metros.with("f");
        x.load(0, 2000);
        x.tapIn(0, 2);
        x.tapIn(0, 4);
        x.tapOut(0, 8);
        x.tapIn(0, 8);
        x.save();
        x.tapIn(0, 0);
        back.apply(x);
        p.same(what + " leads back to the trip", 8, x.tripStart(0));
        p.same(what + " leads back to the journey", 4, x.journeyStart(0));
        p.same(what + " leads back to the charges of the journey", 0, x.chargeIfTappedOut(0, 9));
        p.same(what + " leads back to the incomplete trip", 250, x.repair(0, 2));
        x.save();
        x.tapOut(0, 11);
        back.apply(x);
        p.same(what + " leads back to the trip", 8, x.tripStart(0));
        p.same(what + " leads back to the minutes", 180, x.minutesLeft(0));
    }

    private static void notCovered(Probe p, String what, Function<MetroFares, Object> back) {
        MetroFares x = Metros.with("f");
        x.save();
        x.load(0, 5);
        Metros.run(x, "wait;");
        Metros.run(x, "wait 1;wait 0");
        x.renderCard(0);
        Metros.typeAll(x, "card ");
        back.apply(x);
        p.same(what + " takes back the load", 0, x.balance(0));
        p.same(what + " leaves the error position", 4, x.errorPosition());
        p.same(what + " leaves the index of the failed command", 1, x.failedCommand());
        p.same(what + " leaves the output text", "0f:5", Metros.output(x, 4));
        p.refused(what + " leaves the length of the text", INDEX, () -> x.outputAt(4));
        p.same(what + " leaves the script buffer", 6, x.type('r'));
        p.same(what + " leaves the script buffer", 1, x.runScript());
        p.same(what + " leaves the script buffer", true, x.isReduced(1));
    }

    @Says("A method that throws an exception changes nothing unless its description says otherwise.")
    static void refusedCalls(Probe p) {
        p.refused("issueCard", () -> Metros.with("ffffffff"), STATE, x -> x.issueCard(true));
        p.refusedWhenBusy("load", ARGUMENT, x -> x.load(0, 0));
        p.refused("tapIn", Metros.atBalance(-501), STATE, x -> x.tapIn(0, 3));
        p.refusedWhenBusy("tapOut", STATE, x -> x.tapOut(0, 0));
        p.refusedWhenBusy("repair", ELEMENT, x -> x.repair(0, 0));
        p.refusedWhenBusy("setZone", ARGUMENT, x -> x.setZone(0, 7));
        p.refusedWhenBusy("setFares", ARGUMENT, x -> x.setFares(999, 100));
        p.refusedWhenBusy("advance", ARGUMENT, x -> x.advance(2001));
        p.refusedWhenBusy("zone", INDEX, x -> x.zone(12));
        p.refusedWhenBusy("zoneCount", INDEX, x -> x.zoneCount(0, 12));
        p.refusedWhenBusy("zoneCountByComparing", INDEX, x -> x.zoneCountByComparing(12, 0));
        p.refusedWhenBusy("fare", INDEX, x -> x.fare(12, 12));
        p.refusedWhenBusy("taps", INDEX, x -> x.taps(12));
        p.refusedWhenBusy("stationByTaps", ELEMENT, x -> x.stationByTaps(12));
        p.refusedWhenBusy("isReduced", INDEX, x -> x.isReduced(3));
        p.refusedWhenBusy("balance", INDEX, x -> x.balance(3));
        p.refusedWhenBusy("isOnTrip", INDEX, x -> x.isOnTrip(3));
        p.refusedWhenBusy("tripStart", ELEMENT, x -> x.tripStart(0));
        p.refusedWhenBusy("journeyStart", ELEMENT, x -> x.journeyStart(0));
        p.refusedWhenBusy("minutesLeft", ELEMENT, x -> x.minutesLeft(0));
        p.refusedWhenBusy("wouldContinue", INDEX, x -> x.wouldContinue(0, 12));
        p.refusedWhenBusy("chargeIfTappedOut", ELEMENT, x -> x.chargeIfTappedOut(0, 0));
        p.refusedWhenBusy("chargedOn", ARGUMENT, x -> x.chargedOn(0, 2));
        p.refusedWhenBusy("chargedOnByRecords", ARGUMENT, x -> x.chargedOnByRecords(0, -1));
        p.refusedWhenBusy("leftUnderCap", INDEX, x -> x.leftUnderCap(3));
        p.refusedWhenBusy("isRepairable", INDEX, x -> x.isRepairable(3));
        p.refusedWhenBusy("cardBySpending", ELEMENT, x -> x.cardBySpending(3));
        p.refusedWhenBusy("renderCard", INDEX, x -> x.renderCard(3));
        p.refusedWhenBusy("outputAt", INDEX, x -> x.outputAt(20));
        p.refusedWhenBusy("type", ARGUMENT, x -> x.type((char) 127));
        p.refused("undo", MetroFares::new, ELEMENT, x -> x.undo());
        p.refused("restore", () -> Metros.with("f"), STATE, x -> x.restore());
        p.refused("errorPosition", () -> Metros.with("f"), ELEMENT, x -> x.errorPosition());
        p.refused("failedCommand", () -> Metros.with("f"), ELEMENT, x -> x.failedCommand());
        p.refused("meanCharge", () -> Metros.with("f"), ArithmeticException.class, x -> x.meanCharge());
    }

    @Says("If several exceptions apply, the one that is listed first is thrown.")
    static void firstException(Probe p) {
        p.refused("load: card, cents", () -> Metros.with("f"), INDEX, x -> x.load(1, 0));
        p.refused("load: cents, balance", () -> {
            MetroFares x = Metros.with("f");
            x.load(0, 9999);
            x.load(0, 9999);
            return x;
        }, ARGUMENT, x -> x.load(0, 10000));
        p.refused("tapIn: station, balance", Metros.atBalance(-501), INDEX, x -> x.tapIn(0, 12));
        p.refused("tapOut: station, trip", () -> Metros.with("f"), INDEX, x -> x.tapOut(0, -1));
        p.refused("repair: station, none", () -> Metros.with("f"), INDEX, x -> x.repair(0, 12));
        p.refused("repair: station, too late", TermsOfChangesTest::withLateRepair, INDEX, x -> x.repair(0, 12));
        p.refused("repair: repaired, too late", () -> {
            MetroFares x = Metros.with("f");
            x.tapIn(0, 0);
            x.tapIn(0, 0);
            x.tapOut(0, 0);
            x.repair(0, 0);
            Metros.passTo(x, 4320);
            return x;
        }, ELEMENT, x -> x.repair(0, 0));
        p.refused("setZone: station, zone", MetroFares::new, INDEX, x -> x.setZone(12, 7));
        p.refused("chargeIfTappedOut: station, trip", () -> Metros.with("f"), INDEX, x -> x.chargeIfTappedOut(0, 12));
        p.refused("chargedOn: card, day", () -> Metros.with("f"), INDEX, x -> x.chargedOn(1, 1));
        p.refused("chargedOnByRecords: card, day", () -> Metros.with("f"), INDEX, x -> x.chargedOnByRecords(1, -1));
        p.refused("type: character, length", () -> {
            MetroFares x = new MetroFares();
            Metros.typeAll(x, " ".repeat(60));
            return x;
        }, ARGUMENT, x -> x.type((char) 31));
        MetroFares x = new MetroFares();
        p.same("runScript: form, command", Check.thrown(ARGUMENT), Metros.run(x, "wait 0;out 0 0;w"));
        p.refused("runScript: no failed command", ELEMENT, x::failedCommand);
    }

    private static MetroFares withLateRepair() {
        MetroFares x = Metros.with("f");
        x.tapIn(0, 0);
        x.tapIn(0, 0);
        Metros.passTo(x, 4320);
        return x;
    }
}
