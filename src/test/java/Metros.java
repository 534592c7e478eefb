import java.util.function.Supplier;

/** Objects in states that the tests begin with, and steps that they share. */
final class Metros {
    /** Zones of all stations, with zones that are next to each other, come back, or stand at the ends alone. */
    static final String[] ZONES = {
        "111111111111", "123456123456", "111111111112", "211111111111", "666666555555", "121212121212", "112233445566",
    };

    private Metros() { }

    /** A new object with a card for each sign, "f" a full and "r" a reduced one. */
    static MetroFares with(String kinds) {
        MetroFares x = new MetroFares();
        for (char kind : kinds.toCharArray()) {
            x.issueCard(kind == 'r');
        }
        return x;
    }

    static int ride(MetroFares x, int card, int from, int to) {
        x.tapIn(card, from);
        return x.tapOut(card, to);
    }

    /** Makes the card's balance fall by the fare, which its cap has to leave room for. */
    static void pay(MetroFares x, int card, int baseFare) {
        x.setFares(baseFare, 0);
        ride(x, card, 0, 0);
    }

    static void pass(MetroFares x, int minutes) {
        for (int left = minutes; left > 0; left -= 2000) {
            x.advance(Math.min(left, 2000));
        }
    }

    static void passTo(MetroFares x, int minute) {
        pass(x, minute - x.time());
    }

    static void typeAll(MetroFares x, String text) {
        for (char character : text.toCharArray()) {
            x.type(character);
        }
    }

    static String run(MetroFares x, String text) {
        typeAll(x, text);
        return Check.answerOf(x::runScript);
    }

    static String output(MetroFares x, int length) {
        StringBuilder text = new StringBuilder();
        for (int i = 0; i < length; i++) {
            text.append(x.outputAt(i));
        }
        return text.toString();
    }

    /** A state in which there is all that can be kept, and something typed. */
    static MetroFares busy() {
        MetroFares x = untyped();
        typeAll(x, "wait 7");
        return x;
    }

    /** Three cards: 0 is off and able to transfer at 5, 1 is reduced, on its trip and repairable, 2 is new. */
    static MetroFares untyped() {
        MetroFares x = with("frf");
        x.load(0, 3000);
        x.load(1, 500);
        x.setZone(11, 1);
        x.advance(1400);
        x.save();
        run(x, "waix");
        run(x, "wait 1;out 0 3");
        x.tapIn(1, 4);
        x.tapIn(1, 6);
        x.setFares(201, 33);
        ride(x, 0, 0, 5);
        x.advance(5);
        x.renderCard(1);
        return x;
    }

    /** A full card whose balance is this, from 0 down to -700. */
    static Supplier<MetroFares> atBalance(int cents) {
        return () -> {
            MetroFares x = with("f");
            pay(x, 0, -cents);
            return x;
        };
    }

    static void setZones(MetroFares x, String zones) {
        for (int station = 0; station < zones.length(); station++) {
            x.setZone(station, zones.charAt(station) - '0');
        }
    }

    static MetroFares zoned(String zones) {
        MetroFares x = new MetroFares();
        setZones(x, zones);
        return x;
    }

    /** Card 0 is charged 10 on day 0, 11 on day 1, and so on. */
    static MetroFares chargedDaily(int lastDay) {
        MetroFares x = with("fr");
        for (int day = 0; day <= lastDay; day++) {
            x.setFares(10 + day, 0);
            passTo(x, day * 1440);
            ride(x, 0, 0, 0);
        }
        return x;
    }
}
