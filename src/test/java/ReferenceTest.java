import java.lang.reflect.InvocationTargetException;
import java.lang.reflect.Method;
import java.util.ArrayList;
import java.util.List;
import java.util.Map;
import java.util.TreeMap;

/** Long mixed runs of calls, each answer compared with the one of Reference. The runs are the same each time. */
public final class ReferenceTest {
    private static final int RUNS = 1000;
    private static final int CALLS = 512;
    private static final String[] WORDS = {"card ", "load ", "in ", "out ", "fix ", "zone ", "wait "};
    private static final String[] STATIC_QUERIES = {
        "time", "day", "baseFare", "zoneFare", "defaultFare", "cardCount", "loadedTotal", "chargedTotal",
        "paidBackTotal", "completeTrips", "incompleteTrips", "meanCharge", "meanChargeBits", "incompleteShare",
        "incompleteShareBits", "isConsistent", "errorPosition", "failedCommand",
    };
    private static final String[] CARD_QUERIES = {
        "isReduced", "balance", "isOnTrip", "tripStart", "journeyStart", "minutesLeft", "leftUnderCap", "isRepairable",
    };
    private static final String[] PAIR_QUERIES = {"wouldContinue", "chargeIfTappedOut"};
    private static final String[] DAY_QUERIES = {"chargedOn", "chargedOnByRecords"};
    private static final String[] LINE_QUERIES = {"zoneCount", "zoneCountByComparing", "fare"};
    private static final String[] RANK_QUERIES = {"taps", "stationByTaps", "cardBySpending", "zone"};

    private final Check check = new Check();
    private final Map<String, Method> methods = new TreeMap<>();
    private final Map<String, Integer> answered = new TreeMap<>();
    private final Map<String, Integer> thrown = new TreeMap<>();
    private long seed;
    private MetroFares object;
    private Reference reference;
    private List<String> told;
    private boolean isRight;

    public static void main(String[] args) {
        new ReferenceTest().test();
    }

    private void test() {
        for (Method method : MetroFares.class.getDeclaredMethods()) {
            if (java.lang.reflect.Modifier.isPublic(method.getModifiers())) {
                methods.put(method.getName(), method);
            }
        }
        for (int run = 0; run < RUNS; run++) {
            oneRun(run);
        }
        for (String name : methods.keySet()) {
            check.same(name + " answered in some run", true, answered.getOrDefault(name, 0) > 0);
            boolean canThrow = methods.get(name).getExceptionTypes().length > 0;
            check.same(name + " threw in some run", canThrow, thrown.getOrDefault(name, 0) > 0);
        }
        check.finish("ReferenceTest");
    }

    private void oneRun(int run) {
        seed = run * 7919L + 17;
        object = new MetroFares();
        reference = new Reference();
        told = new ArrayList<>();
        isRight = true;
        for (int card = 0; run % 8 == 3 && card < 8; card++) {
            ask("issueCard", pick(2) == 0);
        }
        while (told.size() < CALLS && isRight) {
            step(run);
            for (int i = pick(8); i > 0; i--) {
                look();
            }
        }
        check.same("run " + run, true, isRight);
    }

    private int pick(int bound) {
        seed = seed * 6364136223846793005L + 1442695040888963407L;
        return (int) ((seed >>> 33) % bound);
    }

    private int oneOf(int... values) {
        return values[pick(values.length)];
    }

    /** One of the values, or rarely a number far away from all that is allowed. */
    private int oneOfOrFar(int... values) {
        return pick(4) == 0 ? oneOf(Integer.MIN_VALUE, Integer.MAX_VALUE, 1 << 30, 65536) : oneOf(values);
    }

    private void ask(String name, Object... args) {
        if (!isRight || told.size() >= CALLS) {
            return;
        }
        String due = Check.answerOf(() -> reference.call(name, args));
        String got = Check.answerOf(() -> invoke(name, args));
        (due.startsWith("throws") ? thrown : answered).merge(name, 1, Integer::sum);
        told.add(name + java.util.Arrays.toString(args) + " = " + got);
        if (!due.equals(got)) {
            isRight = false;
            for (String line : told.subList(Math.max(0, told.size() - 40), told.size())) {
                System.out.println("  " + line);
            }
            System.out.println("due is " + due);
        }
    }

    private Object invoke(String name, Object... args) throws Exception {
        try {
            return methods.get(name).invoke(object, args);
        } catch (InvocationTargetException e) {
            throw (Exception) e.getCause();
        }
    }

    private int known(String name) {
        return (int) reference.call(name);
    }

    private int someCard() {
        int count = known("cardCount");
        return pick(25) == 0 || count == 0 ? oneOfOrFar(-1, count, 8, 9) : pick(count);
    }

    private int someStation() {
        return pick(30) == 0 ? oneOfOrFar(-1, 12, 9999, -12) : pick(3) == 0 ? pick(12) : pick(4);
    }

    private int someMinutes() {
        switch (pick(8)) {
            case 0:
                return oneOf(14, 15, 16);
            case 1:
                return oneOf(164, 165, 179, 180, 181);
            case 2:
                return oneOf(1259, 1260, 1261, 1439, 1440, 1441, 2000);
            case 3:
                return pick(10) == 0 ? oneOfOrFar(0, -1, 2001, 9999) : 1;
            default:
                return 1 + pick(14);
        }
    }

    private void step(int run) {
        switch (pick(run % 4 == 0 ? 26 : 23)) {
            case 0:
                if (pick(4) == 0 || known("cardCount") < 2) {
                    ask("issueCard", pick(2) == 0);
                }
                break;
            case 1:
                ask("load", someCard(), oneOf(1, 9999, 300, 1000, oneOfOrFar(0, 10000), 1 + pick(9999)));
                break;
            case 2: case 3: case 4: case 5:
                ask("tapIn", someCard(), someStation());
                break;
            case 6: case 7: case 8: case 9:
                ask("tapOut", someCard(), someStation());
                break;
            case 10: case 11:
                ask("repair", someCard(), someStation());
                break;
            case 12:
                ask("setZone", someStation(), pick(10) == 0 ? oneOf(0, 7, -1) : 1 + pick(6));
                break;
            case 13:
                ask("setFares", oneOf(200, 0, 999, 1000, 77, 501, -1, pick(1000)), oneOf(50, 0, 99, 100, 33, -1, pick(100)));
                break;
            case 14: case 15: case 16:
                ask("advance", someMinutes());
                break;
            case 17:
                for (int times = pick(4); times >= 0; times--) {
                    ask("undo");
                }
                break;
            case 18:
                ask("save");
                break;
            case 19:
                if (pick(4) == 0) {
                    ask("restore");
                }
                break;
            case 20:
                transfer(someCard());
                break;
            default:
                script();
                break;
        }
    }

    /** A trip, a change at its end, and a trip on. */
    private void transfer(int card) {
        int station = someStation();
        ask("tapIn", card, someStation());
        ask("advance", 1 + pick(30));
        ask("tapOut", card, station);
        ask("advance", oneOf(1, 14, 15, 16));
        ask("wouldContinue", card, station);
        ask("tapIn", card, station);
        ask("chargeIfTappedOut", card, someStation());
    }

    private void script() {
        StringBuilder text = new StringBuilder();
        int commands = pick(6);
        for (int i = 0; i <= commands; i++) {
            text.append(i == 0 ? "" : ";").append(command());
        }
        if (pick(3) == 0) {
            int place = pick(text.length() + 1);
            String signs = " ;0123456789cfrloadinutxzw";
            switch (pick(3)) {
                case 0:
                    text.setLength(place);
                    break;
                case 1:
                    text.insert(place, signs.charAt(pick(signs.length())));
                    break;
                default:
                    text.setCharAt(Math.min(place, text.length() - 1), signs.charAt(pick(signs.length())));
                    break;
            }
        }
        for (int i = 0; i < text.length(); i++) {
            ask("type", text.charAt(i));
        }
        if (pick(20) == 0) {
            ask("type", (char) oneOf(31, 127, 0, 200, 65535));
        }
        ask("runScript");
        ask("errorPosition");
        ask("failedCommand");
    }

    private String command() {
        String word = WORDS[pick(WORDS.length)];
        int card = pick(15) == 0 ? pick(10) : pick(Math.max(1, known("cardCount")));
        switch (word) {
            case "card ":
                return pick(3) == 0 ? word + (pick(2) == 0 ? "f" : "r") : "wait 1";
            case "load ":
                return word + card + " " + oneOf(1, 500, 9999, pick(10000));
            case "zone ":
                return word + (pick(2) == 0 ? "0" : "") + pick(12) + " " + (pick(15) == 0 ? 7 : 1 + pick(6));
            case "wait ":
                return word + Math.max(pick(30) == 0 ? 0 : 1, someMinutes());
            default:
                return word + card + " " + (pick(2) == 0 ? "00" : "") + pick(12);
        }
    }

    private void look() {
        switch (pick(7)) {
            case 0:
                ask(STATIC_QUERIES[pick(STATIC_QUERIES.length)]);
                break;
            case 1:
                ask(CARD_QUERIES[pick(CARD_QUERIES.length)], someCard());
                break;
            case 2:
                ask(PAIR_QUERIES[pick(PAIR_QUERIES.length)], someCard(), someStation());
                break;
            case 3:
                ask(DAY_QUERIES[pick(DAY_QUERIES.length)], someCard(), known("day") + 1 - pick(5));
                break;
            case 4:
                ask(LINE_QUERIES[pick(LINE_QUERIES.length)], pick(14) - 1, pick(14) - 1);
                break;
            case 5:
                ask(RANK_QUERIES[pick(RANK_QUERIES.length)], pick(14) - 1);
                break;
            default:
                lookAtOutput();
                break;
        }
    }

    private void lookAtOutput() {
        if (pick(3) == 0) {
            ask("renderZones");
        } else {
            ask("renderCard", someCard());
        }
        for (int i = pick(4); i > 0; i--) {
            ask("outputAt", pick(14) - 1);
        }
    }
}
