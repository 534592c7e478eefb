/** What an object answers, as a text; each text takes fewer calls than an object has (512). */
final class View {
    private static final int STATIONS = 12;

    private View() { }

    /** All that can be asked without a change of what undo covers. */
    static String of(MetroFares x) {
        StringBuilder text = new StringBuilder(brief(x));
        for (int station = 0; station < STATIONS; station++) {
            text.append(' ').append(x.zone(station)).append('/').append(x.taps(station));
        }
        for (int card = 0; card < x.cardCount(); card++) {
            addCard(text, x, card);
        }
        text.append("\nerror ").append(Check.answerOf(x::errorPosition));
        text.append(" failed ").append(Check.answerOf(x::failedCommand)).append(" output ");
        addOutput(text, x);
        return text.toString();
    }

    /** The numbers that nearly every change touches. */
    static String brief(MetroFares x) {
        StringBuilder text = new StringBuilder();
        text.append("time ").append(x.time()).append(" fares ").append(x.baseFare()).append(' ').append(x.zoneFare());
        text.append(" totals ").append(x.loadedTotal()).append(' ').append(x.chargedTotal()).append(' ');
        text.append(x.paidBackTotal()).append(" trips ").append(x.completeTrips()).append(' ');
        text.append(x.incompleteTrips()).append(" cards");
        for (int card = 0; card < x.cardCount(); card++) {
            text.append(x.isReduced(card) ? " r" : " f").append(x.balance(card));
            text.append(x.isOnTrip(card) ? "@" + x.tripStart(card) + "/" + x.minutesLeft(card) : "");
        }
        return text.append(" zones ").append(x.fare(0, 11)).append(' ').append(x.zone(0)).toString();
    }

    /** What each undo leads back to. */
    static String undone(MetroFares x) {
        StringBuilder text = new StringBuilder();
        for (int i = 0; i < 9; i++) {
            text.append("\nundo ").append(Check.answerOf(x::undo)).append(": ").append(brief(x));
        }
        return text.toString();
    }

    /** What the snapshot leads back to. */
    static String restored(MetroFares x) {
        return Check.answerOf(x::restore) + ": " + of(x);
    }

    /** How long the script buffer is and what it does. */
    static String scripted(MetroFares x) {
        return Check.answerOf(() -> x.type(';')) + Check.answerOf(x::runScript) + ": " + of(x);
    }

    private static void addCard(StringBuilder text, MetroFares x, int card) {
        text.append("\ncard ").append(card).append(x.isRepairable(card) ? " repairable" : "");
        text.append(" left ").append(x.leftUnderCap(card)).append(" charged");
        for (int day = Math.max(0, x.day() - 2); day <= x.day(); day++) {
            text.append(' ').append(x.chargedOn(card, day)).append('/').append(x.chargedOnByRecords(card, day));
        }
        text.append(" journey ").append(Check.answerOf(() -> x.journeyStart(card)));
        text.append(" out ").append(Check.answerOf(() -> x.chargeIfTappedOut(card, 0)));
        text.append(' ').append(Check.answerOf(() -> x.chargeIfTappedOut(card, 7))).append(" continues");
        for (int station = 0; station < STATIONS; station++) {
            text.append(x.wouldContinue(card, station) ? " " + station : "");
        }
    }

    private static void addOutput(StringBuilder text, MetroFares x) {
        for (int i = 0; i < 20; i++) {
            int index = i;
            String sign = Check.answerOf(() -> x.outputAt(index));
            if (sign.length() > 1) {
                return;
            }
            text.append(sign);
        }
    }
}
