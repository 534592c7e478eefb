import java.util.NoSuchElementException;

/** A test for each sentence of the promises 45 to 54, on both sides of each boundary that it names. */
final class OutputTest {
    private static final Class<IndexOutOfBoundsException> INDEX = IndexOutOfBoundsException.class;
    private static final Class<IllegalArgumentException> ARGUMENT = IllegalArgumentException.class;
    private static final Class<IllegalStateException> STATE = IllegalStateException.class;
    private static final Class<NoSuchElementException> ELEMENT = NoSuchElementException.class;

    private OutputTest() { }

    public static void main(String[] args) throws ReflectiveOperationException {
        Probe.run(OutputTest.class);
    }

    // ---- the output text

    private static void cardShown(Probe p, MetroFares x, int card, String due) {
        p.same("length of " + due, due.length(), x.renderCard(card));
        p.same("text", due, Metros.output(x, due.length()));
        p.refused("end of " + due, INDEX, () -> x.outputAt(due.length()));
    }

    @Says(promise = 45, value = "Replaces the output text by a description of a card: its index, \"f\" or \"r\", \":\" and "
            + "its balance, and then \"@\" and the station where its trip began if it is on a trip, as in \"2r:-150@7\".")
    static void renderCard(Probe p) {
        MetroFares x = Metros.with("frrfffff");
        cardShown(p, x, 0, "0f:0");
        cardShown(p, x, 7, "7f:0");
        x.load(1, 9999);
        x.load(1, 9999);
        x.load(1, 2);
        cardShown(p, x, 1, "1r:20000");
        x.tapIn(1, 0);
        cardShown(p, x, 1, "1r:20000@0");
        x.tapIn(1, 11);
        cardShown(p, x, 1, "1r:19775@11");
        Metros.ride(x, 2, 0, 4);
        cardShown(p, x, 2, "2r:-150");
        x.tapIn(2, 7);
        cardShown(p, x, 2, "2r:-150@7");
        x.advance(179);
        cardShown(p, x, 2, "2r:-150@7");
        x.advance(1);
        cardShown(p, x, 2, "2r:-350");
        x.load(0, 1);
        cardShown(p, x, 0, "0f:1");
        x.renderZones();
        cardShown(p, x, 0, "0f:1");
        Metros.ride(x, 3, 2, 4);
        x.tapIn(3, 4);
        cardShown(p, x, 3, "3f:-250@4");
    }

    @Says(promise = 45, value = "Returns the length of the output text.")
    static void renderedLength(Probe p) {
        MetroFares x = Metros.with("f");
        p.same("shortest", 4, x.renderCard(0));
        x.load(0, 9);
        p.same("one digit", 4, x.renderCard(0));
        x.load(0, 1);
        p.same("two digits", 5, x.renderCard(0));
        x.tapIn(0, 9);
        p.same("with a station", 7, x.renderCard(0));
        x.tapOut(0, 9);
        x.tapIn(0, 10);
        p.same("with a sign and two digits", 10, x.renderCard(0));
        p.same("the text", "0f:-190@10", Metros.output(x, 10));
    }

    @Says(promise = 45, value = "Throws `IndexOutOfBoundsException` if there is no such card")
    static void renderNoCard(Probe p) {
        p.takesCards(MetroFares::renderCard);
    }

    @Says(promise = 46, value = "Replaces the output text by the zones of all stations in order, as in \"112233445566\".")
    static void renderZones(Probe p) {
        MetroFares x = Metros.with("f");
        x.renderCard(0);
        x.renderZones();
        p.same("initial", "112233445566", Metros.output(x, 12));
        x.setZone(0, 6);
        x.setZone(11, 1);
        p.same("only by the call", "112233445566", Metros.output(x, 12));
        x.renderZones();
        p.same("changed", "612233445561", Metros.output(x, 12));
    }

    @Says(promise = 46, value = "Returns the length of the output text.")
    static void zonesLength(Probe p) {
        MetroFares x = Metros.with("f");
        p.same("length", 12, x.renderZones());
        p.same("again", 12, x.renderZones());
        p.refused("its end", INDEX, () -> x.outputAt(12));
    }

    @Says(promise = 47, value = "Returns a character of the output text, which is empty initially.")
    static void outputAt(Probe p) {
        p.refused("initially", MetroFares::new, INDEX, x -> x.outputAt(0));
        MetroFares x = Metros.with("f");
        x.renderCard(0);
        p.same("first", '0', x.outputAt(0));
        p.same("second", 'f', x.outputAt(1));
        p.same("third", ':', x.outputAt(2));
        p.same("last", '0', x.outputAt(3));
        p.same("again", '0', x.outputAt(0));
    }

    @Says(promise = 47, value = "Throws `IndexOutOfBoundsException` if there is no such index")
    static void noIndex(Probe p) {
        for (int index : new int[] {-1, 12, 13, Integer.MIN_VALUE, Integer.MAX_VALUE}) {
            p.refused("index " + index, () -> {
                MetroFares x = Metros.with("f");
                x.renderZones();
                return x;
            }, INDEX, x -> x.outputAt(index));
        }
        MetroFares x = Metros.with("f");
        x.renderZones();
        p.same("index 0", '1', x.outputAt(0));
        p.same("index 11", '6', x.outputAt(11));
        x.renderCard(0);
        p.same("index 3 of a shorter text", '0', x.outputAt(3));
        p.refused("index 4 of a shorter text", INDEX, () -> x.outputAt(4));
    }

    // ---- scripts

    @Says(promise = 48, value = "Appends a character to the script buffer.")
    static void type(Probe p) {
        MetroFares x = new MetroFares();
        x.type('w');
        x.type('a');
        x.type('i');
        x.type('t');
        x.type(' ');
        x.type('1');
        x.type('2');
        x.runScript();
        p.same("in order", 12, x.time());
    }

    @Says(promise = 48, value = "Returns the length of the script buffer.")
    static void typedLength(Probe p) {
        MetroFares x = new MetroFares();
        for (int length = 1; length <= 60; length++) {
            p.same("length", length, x.type('a'));
        }
        p.refused("full", STATE, () -> x.type('a'));
        p.refused("not a script", ARGUMENT, x::runScript);
        p.same("after a run", 1, x.type('a'));
    }

    @Says(promise = 48, value = "Throws `IllegalArgumentException` if the character code is not between 32 and 126")
    static void typedCharacters(Probe p) {
        for (int code : new int[] {0, 1, 10, 31, 127, 128, 159, 160, 255, 256, 32767, 65535}) {
            p.refusedWhenBusy("code " + code, ARGUMENT, x -> x.type((char) code));
        }
        for (int code = 32; code <= 126; code++) {
            char character = (char) code;
            p.same("code " + code, "1", Check.answerOf(() -> new MetroFares().type(character)));
        }
    }

    private static MetroFares typed(int length) {
        MetroFares x = new MetroFares();
        Metros.typeAll(x, "w".repeat(length));
        return x;
    }

    @Says(promise = 48, value = "Throws `IllegalStateException` if the script buffer has 60 characters")
    static void fullBuffer(Probe p) {
        p.refused("60", () -> typed(60), STATE, x -> x.type('w'));
        p.same("59", 60, typed(59).type('w'));
        p.same("58", 59, typed(58).type('w'));
    }

    @Says(promise = 49, value = "Runs the script in the script buffer.")
    static void runScript(Probe p) {
        MetroFares x = new MetroFares();
        Metros.typeAll(x, "card r;load 0 10");
        p.same("not yet", 0, x.cardCount());
        x.runScript();
        p.same("a card", 1, x.cardCount());
        p.same("a load", 10, x.balance(0));
        p.same("one change", 0, x.undo());
        p.same("undone at once", 0, x.cardCount());
    }

    @Says(promise = 49, value = "The buffer is empty afterwards, also if an exception is thrown.")
    static void emptyBuffer(Probe p) {
        for (String text : new String[] {"wait 1", "", "w", "wait 1;", "wait 0", "wait 1;wait 0"}) {
            MetroFares x = new MetroFares();
            Metros.run(x, text);
            p.same("after " + text, 1, x.type('w'));
            p.same("it runs what is typed then", "1", Metros.run(x, "ait 5"));
        }
        MetroFares x = new MetroFares();
        Metros.run(x, "wait 1");
        p.refused("the empty script", ARGUMENT, x::runScript);
        p.same("the empty script", 0, x.errorPosition());
    }

    @Says(promise = 49, value = "Returns the number of commands.")
    static void commandCount(Probe p) {
        StringBuilder text = new StringBuilder("card f");
        for (int count = 1; count <= 8; count++) {
            MetroFares x = new MetroFares();
            p.same(text.toString(), "" + count, Metros.run(x, text.toString()));
            p.same("cards", count, x.cardCount());
            text.append(";card r");
        }
        MetroFares x = Metros.with("f");
        x.load(0, 9999);
        p.same("the most", "8", Metros.run(x, "wait 1;wait 1;wait 1;wait 1;wait 1;wait 1;wait 1;wait 1"));
        p.same("in 60 characters", "8", Metros.run(x, "wait 1;wait 1;wait 1;wait 1;wait 1;wait 1;wait 1;wait 1111"));
        p.same("the shortest", "8", Metros.run(x, "in 0 1;in 0 1;wait 1;out 0 1;in 0 1;in 0 1;out 0 1;in 0 1"));
    }

    private static String afterRun(String text) {
        MetroFares x = Metros.untyped();
        Metros.run(x, text);
        x.renderZones();
        return View.brief(x) + View.undone(x);
    }

    private static String notRun() {
        MetroFares x = Metros.untyped();
        return View.brief(x) + View.undone(x);
    }

    /** The sign ^ stands before the first character that cannot continue a script. */
    @Says(promise = 49, value = "Throws `IllegalArgumentException` if the script does not have the required form; "
            + "errorPosition then returns its error position")
    static void wrongForm(Probe p) {
        String[] marked = {
            "^", "^ ", "w^", "wait^", "wait ^", "wait ^x", "wait 1^ ", "wait 1;^", "wait 1;^;", "wait 1^,",
            "wait 1234^5", "wait ^-1", "^Wait 1", "card^", "card ^", "card ^g", "card f^f", "card f^ ", "card f;^r",
            "load 0^", "load 0 ^", "load 0^0 1", "load ^x 1", "load 0 ^x", "in 0^", "in 0 ^", "in 1^0 1", "in 0 1^ ",
            "i^m", "out^", "out 0 1^o", "o^t", "fix 0^", "fix 0 ^-", "f^ox", "zone 1^", "zone 1 ^", "zone 1 1^1",
            "zone 1 ^x", "zone 1234^5", "zone ^x", "zon^1", "^undo", "^save", "wait 1;card f;^x", "wait 1^:",
            "wait 1^/", "wait ^:", "wait ^/", "load ^: 1", "load ^/ 1", "zone 1 ^:", "zone 1 ^/", "in 0 1^:1",
        };
        for (String text : marked) {
            int position = text.indexOf('^');
            String script = text.replace("^", "");
            MetroFares x = Metros.untyped();
            p.same(text, Check.thrown(ARGUMENT), Metros.run(x, script));
            p.same("error position of " + text, position, x.errorPosition());
            p.same("the index of the failed command is as before " + text, 1, x.failedCommand());
            p.same("nothing takes effect: " + text, notRun(), afterRun(script));
        }
    }

    @Says(promise = 49, value = "Throws `IllegalStateException` if the method for a command throws an exception; no command "
            + "takes effect, and failedCommand then returns the index of that command")
    static void failedCommands(Probe p) {
        String[] fails = {
            "load 3 1", "load 9 1", "load 0 0", "load 0 0000", "in 3 1", "in 0 12", "in 0 9999", "out 0 1", "out 1 12",
            "out 3 1", "fix 0 1", "fix 1 12", "fix 3 1", "zone 12 1", "zone 9999 1", "zone 1 0", "zone 1 7", "zone 1 9",
            "wait 0", "wait 2001", "wait 9999",
        };
        for (String fail : fails) {
            for (int before = 0; before < 6; before++) {
                String text = "wait 1;".repeat(before) + fail;
                MetroFares x = Metros.untyped();
                p.same(text, Check.thrown(STATE), Metros.run(x, text));
                p.same("failed command of " + text, before, x.failedCommand());
                p.same("the error position is as before " + text, 3, x.errorPosition());
                p.same("nothing takes effect: " + text, notRun(), afterRun(text));
            }
        }
        MetroFares full = Metros.with("ffffffff");
        p.same("a ninth card", Check.thrown(STATE), Metros.run(full, "wait 1;card r;wait 1"));
        p.same("a ninth card", 1, full.failedCommand());
        MetroFares poor = Metros.atBalance(-501).get();
        p.same("too poor", Check.thrown(STATE), Metros.run(poor, "in 0 0"));
        MetroFares rich = Metros.with("f");
        p.same("too rich", Check.thrown(STATE), Metros.run(rich, "load 0 9999;load 0 9999;load 0 2;load 0 1"));
        p.same("too rich", 3, rich.failedCommand());
        MetroFares late = Metros.with("f");
        late.tapIn(0, 0);
        p.same("too late", Check.thrown(STATE), Metros.run(late, "wait 2000;wait 2000;wait 320;fix 0 0"));
        p.same("in time", "4", Metros.run(late, "wait 2000;wait 2000;wait 319;fix 0 0"));
    }

    @Says(promise = 50, value = "Returns the error position of the latest script that did not have the required form.")
    static void errorPosition(Probe p) {
        MetroFares x = Metros.with("f");
        Metros.run(x, "wait 1?");
        p.same("one", 6, x.errorPosition());
        Metros.run(x, "wait 1");
        p.same("after a script that ran", 6, x.errorPosition());
        Metros.run(x, "wait 0");
        p.same("after a failed command", 6, x.errorPosition());
        Metros.run(x, "");
        p.same("another", 0, x.errorPosition());
        x.undo();
        p.same("after undo", 0, x.errorPosition());
        Metros.typeAll(x, "abc");
        p.same("while typing", 0, x.errorPosition());
    }

    @Says(promise = 50, value = "Throws `NoSuchElementException` if there was no such script")
    static void noErrorPosition(Probe p) {
        p.refused("new", MetroFares::new, ELEMENT, x -> x.errorPosition());
        p.refused("only others", () -> {
            MetroFares x = Metros.with("f");
            Metros.run(x, "wait 1");
            Metros.run(x, "wait 1;wait 0");
            Metros.typeAll(x, "?");
            return x;
        }, ELEMENT, x -> x.errorPosition());
        MetroFares x = new MetroFares();
        Metros.run(x, "");
        p.same("position 0", "0", Check.answerOf(x::errorPosition));
    }

    @Says(promise = 51, value = "Returns the index of the command that failed in the latest script with a failed command.")
    static void failedCommand(Probe p) {
        MetroFares x = Metros.with("f");
        Metros.run(x, "wait 1;wait 1;wait 0;wait 0");
        p.same("the first that failed", 2, x.failedCommand());
        Metros.run(x, "wait 1");
        p.same("after a script that ran", 2, x.failedCommand());
        Metros.run(x, "wait 0;?");
        p.same("after one without the form", 2, x.failedCommand());
        Metros.run(x, "wait 1;in 1 0");
        p.same("another", 1, x.failedCommand());
        x.undo();
        p.same("after undo", 1, x.failedCommand());
    }

    @Says(promise = 51, value = "Returns the index of the command, counted from 0.")
    static void failedCommandFromZero(Probe p) {
        for (int index = 0; index < 8; index++) {
            MetroFares x = new MetroFares();
            Metros.run(x, "wait 1;".repeat(index) + "wait 0");
            p.same("index", index, x.failedCommand());
        }
    }

    @Says(promise = 51, value = "Throws `NoSuchElementException` if there was no such script")
    static void noFailedCommand(Probe p) {
        p.refused("new", MetroFares::new, ELEMENT, x -> x.failedCommand());
        p.refused("only others", () -> {
            MetroFares x = Metros.with("f");
            Metros.run(x, "wait 1");
            Metros.run(x, "wait 0;?");
            Metros.typeAll(x, "wait 0");
            return x;
        }, ELEMENT, x -> x.failedCommand());
        MetroFares x = new MetroFares();
        Metros.run(x, "wait 0");
        p.same("index 0", "0", Check.answerOf(x::failedCommand));
    }

    // ---- undo and the snapshot

    @Says(promise = 52, value = "Undoes the latest change that has not been undone.")
    static void undo(Probe p) {
        MetroFares x = Metros.with("f");
        x.load(0, 1);
        x.load(0, 2);
        x.load(0, 4);
        x.undo();
        p.same("the latest", 3, x.balance(0));
        x.undo();
        p.same("the one before", 1, x.balance(0));
        x.load(0, 8);
        x.undo();
        p.same("the new one", 1, x.balance(0));
        x.undo();
        p.same("the one before", 0, x.balance(0));
        x.undo();
        p.same("the card", 0, x.cardCount());
        MetroFares y = Metros.with("f");
        for (int round = 0; round < 12; round++) {
            y.load(0, 1);
            y.load(0, 2);
            y.undo();
            y.load(0, 4);
            y.load(0, 8);
            y.load(0, 16);
            y.undo();
            y.undo();
            p.same("undo and new changes in turns", 5 * round + 5, y.balance(0));
        }
        y.undo();
        y.undo();
        y.undo();
        p.same("the ones before", 5 * 11 - 4, y.balance(0));
    }

    @Says(promise = 52, value = "Returns the number of changes that can still be undone.")
    static void undoCount(Probe p) {
        for (int changes = 1; changes <= 20; changes++) {
            MetroFares x = new MetroFares();
            for (int i = 0; i < changes; i++) {
                x.advance(1);
            }
            int first = Math.min(changes, 8) - 1;
            for (int left = first; left >= 0; left--) {
                p.same(changes + " changes", left, x.undo());
            }
            p.same("the time", Math.max(changes - 8, 0), x.time());
        }
    }

    @Says(promise = 52, value = "Throws `NoSuchElementException` if there is nothing to undo")
    static void nothingToUndo(Probe p) {
        p.refused("new", MetroFares::new, ELEMENT, x -> x.undo());
        p.refused("undone", () -> {
            MetroFares x = Metros.with("ff");
            x.undo();
            x.undo();
            return x;
        }, ELEMENT, x -> x.undo());
        p.refused("8 undone", () -> {
            MetroFares x = Metros.with("ffffffff");
            x.advance(1);
            x.advance(1);
            for (int i = 0; i < 8; i++) {
                x.undo();
            }
            return x;
        }, ELEMENT, x -> x.undo());
        p.refused("restored", () -> {
            MetroFares x = Metros.with("ff");
            x.save();
            x.advance(1);
            x.restore();
            return x;
        }, ELEMENT, x -> x.undo());
        p.same("one", "0", Check.answerOf(() -> Metros.with("f").undo()));
        p.same("the eighth", "7", Check.answerOf(() -> Metros.with("ffffffff").undo()));
    }

    @Says(promise = 53, value = "Takes a snapshot, which replaces an earlier one.")
    static void save(Probe p) {
        MetroFares x = Metros.with("f");
        x.save();
        x.load(0, 5);
        String second = View.of(x);
        x.save();
        p.same("nothing changes", second, View.of(x));
        p.same("it is no change", 1, x.undo());
        x.advance(3);
        x.restore();
        p.same("the later one", second, View.of(x));
    }

    @Says(promise = 53, value = "Returns the number of cards.")
    static void savedCards(Probe p) {
        MetroFares x = new MetroFares();
        for (int cards = 0; cards <= 8; cards++) {
            p.same("cards", cards, x.save());
            if (cards < 8) {
                x.issueCard(true);
            }
        }
        x.undo();
        p.same("undone", 7, x.save());
    }

    @Says(promise = 54, value = "Restores the snapshot, which is kept.")
    static void restore(Probe p) {
        MetroFares x = Metros.untyped();
        x.save();
        String saved = View.of(x);
        for (int i = 0; i < 2; i++) {
            x.issueCard(true);
            x.tapIn(2, 3);
            x.tapOut(1, 3);
            x.repair(1, 3);
            x.setZone(3, 6);
            x.setFares(1, 1);
            x.advance(2000);
            x.restore();
            p.same("round " + i, true, saved.startsWith(View.brief(x)));
        }
        p.same("the saved one", saved, View.of(x));
        x.load(0, 1);
        x.undo();
        p.same("undo after restore", saved, View.of(x));
    }

    @Says(promise = 54, value = "Afterwards there is nothing to undo.")
    static void nothingAfterRestore(Probe p) {
        for (int changes = 0; changes <= 9; changes++) {
            MetroFares x = Metros.with("f");
            x.save();
            for (int i = 0; i < changes; i++) {
                x.advance(1);
            }
            x.restore();
            p.refused("after " + changes, ELEMENT, x::undo);
            x.advance(1);
            p.same("a change after it", 0, x.undo());
            p.refused("after that", ELEMENT, x::undo);
        }
    }

    @Says(promise = 54, value = "Returns the number of cards.")
    static void restoredCards(Probe p) {
        for (int cards = 0; cards <= 8; cards++) {
            MetroFares x = Metros.with("f".repeat(cards));
            x.save();
            if (cards < 8) {
                x.issueCard(true);
            }
            p.same("fewer", cards, x.restore());
            p.same("fewer", cards, x.cardCount());
        }
        MetroFares x = Metros.with("fr");
        x.save();
        x.undo();
        p.same("more", 2, x.restore());
        p.same("the second", true, x.isReduced(1));
        MetroFares y = new MetroFares();
        y.save();
        for (int card = 0; card < 3; card++) {
            y.issueCard(card == 1);
            y.load(card, 900);
            y.tapIn(card, 4);
            y.tapIn(card, 5);
            Metros.ride(y, card, 6, 7);
            y.tapIn(card, card + 5);
        }
        y.restore();
        p.same("a card that is gone is on no trip", 0, y.advance(180));
        y.restore();
        MetroFares twin = new MetroFares();
        for (int card = 0; card < 3; card++) {
            y.issueCard(false);
            twin.issueCard(false);
            p.same("a card in its place is new", View.of(twin), View.of(y));
        }
    }

    @Says(promise = 54, value = "Throws `IllegalStateException` if there is no snapshot")
    static void noSnapshot(Probe p) {
        p.refused("new", MetroFares::new, STATE, x -> x.restore());
        p.refused("changed", () -> Metros.with("fr"), STATE, x -> x.restore());
        MetroFares x = new MetroFares();
        x.save();
        p.same("an empty one", "0", Check.answerOf(x::restore));
        p.same("again", "0", Check.answerOf(x::restore));
    }
}
