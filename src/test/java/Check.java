import java.util.concurrent.Callable;

/** Counts and prints what is not as due. */
final class Check {
    private int wrong;
    private int done;

    void same(String what, Object due, Object got) {
        done++;
        if (!due.equals(got)) {
            wrong++;
            System.out.println(what + ": due is " + due + ", got " + got);
        }
    }

    void refused(String what, Class<? extends RuntimeException> due, Callable<?> call) {
        same(what, "throws " + due.getName(), answerOf(call));
    }

    /** The answer as a text, or "throws " and the exact name of what was thrown. */
    static String answerOf(Callable<?> call) {
        try {
            return String.valueOf(call.call());
        } catch (Exception e) {
            return "throws " + e.getClass().getName();
        }
    }

    void finish(String name) {
        System.out.println(name + ": " + done + " checks, " + wrong + " wrong");
        if (wrong != 0 || done == 0) {
            System.exit(1);
        }
    }
}
