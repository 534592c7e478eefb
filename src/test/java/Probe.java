import java.lang.reflect.InvocationTargetException;
import java.lang.reflect.Method;
import java.util.List;
import java.util.function.BiFunction;
import java.util.function.Function;
import java.util.function.IntFunction;
import java.util.function.Supplier;

/** Checks with whole states: a refused call is compared with an object on which it was not tried. */
final class Probe extends Check {
    static final Class<IndexOutOfBoundsException> INDEX = IndexOutOfBoundsException.class;
    private static final int[] NO_CARDS_OF_THREE = {-1, 3, 4, 7, 8, Integer.MIN_VALUE, Integer.MAX_VALUE};
    private static final int[] NO_STATIONS = {-1, 12, 13, Integer.MIN_VALUE, Integer.MAX_VALUE};

    /** Runs each test of the class that says a sentence; a test that checks nothing fails. */
    static void run(Class<?> tests) throws ReflectiveOperationException {
        Probe probe = new Probe();
        for (Method test : tests.getDeclaredMethods()) {
            Says says = test.getAnnotation(Says.class);
            if (says != null) {
                probe.about(test.getName() + " (" + says.promise() + ": " + says.value() + ")");
                int before = probe.done();
                probe.same("runs to its end", "null", probe.outcomeOf(test));
                probe.same("has checks", true, probe.done() > before + 1);
            }
        }
        probe.finish(tests.getName());
    }

    private String outcomeOf(Method test) throws ReflectiveOperationException {
        try {
            return String.valueOf(test.invoke(null, this));
        } catch (InvocationTargetException e) {
            return e.getCause() + " at " + List.of(e.getCause().getStackTrace());
        }
    }

    /** The call is refused, and after it everything is as on an object that was made alike. */
    void refused(String what, Supplier<MetroFares> made, Class<? extends RuntimeException> due,
            Function<MetroFares, Object> call) {
        unchanged(what + " is asked for", made, due, call, View::of);
        unchanged(what + " is undone", made, due, call, View::undone);
        unchanged(what + " is restored", made, due, call, View::restored);
        unchanged(what + " is typed on", made, due, call, View::scripted);
    }

    private void unchanged(String what, Supplier<MetroFares> made, Class<? extends RuntimeException> due,
            Function<MetroFares, Object> call, Function<MetroFares, String> view) {
        MetroFares tried = made.get();
        same(what, thrown(due), answerOf(() -> call.apply(tried)));
        same(what + ": changes nothing", view.apply(made.get()), view.apply(tried));
    }

    void refusedWhenBusy(String what, Class<? extends RuntimeException> due, Function<MetroFares, Object> call) {
        refused(what + " when busy", Metros::busy, due, call);
    }

    /** The call takes the cards 0 to n - 1, n from 0 to 8, and no others. */
    void takesCards(BiFunction<MetroFares, Integer, Object> call) {
        refused("card 0 of none", MetroFares::new, INDEX, x -> call.apply(x, 0));
        refused("card 8 of 8", () -> Metros.with("ffffrrrr"), INDEX, x -> call.apply(x, 8));
        for (int card : NO_CARDS_OF_THREE) {
            refusedWhenBusy("card " + card, INDEX, x -> call.apply(x, card));
        }
        refused("a card whose issue is undone", () -> {
            MetroFares x = Metros.with("fr");
            x.undo();
            return x;
        }, INDEX, x -> call.apply(x, 1));
        for (int card = 0; card < 8; card++) {
            MetroFares x = Metros.with("ffffrrrr");
            takesIndex("card " + card, card, index -> call.apply(x, index));
        }
    }

    /** The call takes the stations 0 to 11 and no others. */
    void takesStations(BiFunction<MetroFares, Integer, Object> call) {
        for (int station : NO_STATIONS) {
            refusedWhenBusy("station " + station, INDEX, x -> call.apply(x, station));
            refused("station " + station, () -> Metros.with("f"), INDEX, x -> call.apply(x, station));
        }
        for (int station = 0; station < 12; station++) {
            MetroFares x = Metros.busy();
            takesIndex("station " + station, station, index -> call.apply(x, index));
        }
    }

    private void takesIndex(String what, int index, IntFunction<Object> call) {
        same(what + " exists", false, answerOf(() -> call.apply(index)).equals(thrown(INDEX)));
    }
}
