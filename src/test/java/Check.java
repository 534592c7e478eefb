import java.util.concurrent.Callable;

/** Counts and prints what is not as due. */
class Check {
    private String about = "";
    private int wrong;
    private int done;

    /** What the next checks are about; it is printed with each one that fails. */
    void about(String what) {
        about = what + " | ";
    }

    void same(String what, Object due, Object got) {
        done++;
        if (!due.equals(got)) {
            wrong++;
            System.out.println(about + what + ": due is " + due + ", got " + got);
        }
    }

    void refused(String what, Class<? extends RuntimeException> due, Callable<?> call) {
        same(what, thrown(due), answerOf(call));
    }

    static String thrown(Class<? extends RuntimeException> kind) {
        return "throws " + kind.getName();
    }

    /** The answer as a text, or "throws " and the exact name of what was thrown. */
    static String answerOf(Callable<?> call) {
        try {
            return String.valueOf(call.call());
        } catch (Exception e) {
            return "throws " + e.getClass().getName();
        }
    }

    int done() {
        return done;
    }

    void finish(String name) {
        System.out.println(name + ": " + done + " checks, " + wrong + " wrong");
        if (wrong != 0 || done == 0) {
            System.exit(1);
        }
    }
}
