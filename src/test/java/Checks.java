import java.util.Set;
import java.util.function.IntSupplier;

/** Compares answers with those that are due, prints each that differs, and ends the program. */
final class Checks {
    private static final long MOST_SECONDS = 120;
    private static final Set<String> HARNESS = Set.of("Checks", "Twins");

    private int wrong;
    private int made;

    Checks() {
        // A program that fails to end must fail the test, not hang it.
        Thread watch = new Thread(Checks::endLate);
        watch.setDaemon(true);
        watch.start();
    }

    private static void endLate() {
        try {
            Thread.sleep(MOST_SECONDS * 1000);
        } catch (InterruptedException e) {
            return;
        }
        System.out.println("the test did not end in " + MOST_SECONDS + " seconds");
        Runtime.getRuntime().halt(1);
    }

    void equal(String what, long got, long due) {
        made++;
        if (got != due) {
            report(what + " answered " + got + ", due is " + due);
        }
    }

    void same(String what, String got, String due) {
        made++;
        if (!got.equals(due)) {
            report(what + " answered " + got + ", due is " + due);
        }
    }

    void yes(String what, boolean got) {
        equal(what, got ? 1 : 0, 1);
    }

    void no(String what, boolean got) {
        equal(what, got ? 1 : 0, 0);
    }

    /** The call must throw an exception of exactly this class. */
    void refuses(String what, Class<? extends RuntimeException> due, IntSupplier call) {
        same(what, outcomeOf(call), "throws." + due.getSimpleName());
    }

    /** The refused call must throw, and leave all that can be asked of x as it was. */
    void refusesIdly(PromiseScopes x, String what, Class<? extends RuntimeException> due, IntSupplier call) {
        String before = Snapshot.of(x);
        refuses(what, due, call);
        same("the state behind " + what, Snapshot.of(x), before);
    }

    /** The call must answer so, and leave all that can be asked of x as it was. */
    void idle(PromiseScopes x, String what, long due, IntSupplier call) {
        String before = Snapshot.of(x);
        equal(what, call.getAsInt(), due);
        same("the state behind " + what, Snapshot.of(x), before);
    }

    void stage(PromiseScopes x, int s, int state, int content) {
        equal("stage(" + s + ", 0)", x.stage(s, 0), state);
        equal("stage(" + s + ", 1)", x.stage(s, 1), content);
    }

    /** How many answers were not as due, so far. */
    int wrong() {
        return wrong;
    }

    static String outcomeOf(IntSupplier call) {
        try {
            return Integer.toString(call.getAsInt());
        } catch (RuntimeException e) {
            return "throws." + e.getClass().getSimpleName();
        }
    }

    private void report(String text) {
        wrong++;
        if (wrong <= 50) {
            String where = StackWalker.getInstance()
                    .walk(frames -> frames.filter(f -> !HARNESS.contains(f.getClassName())).findFirst())
                    .map(f -> f.getMethodName() + ":" + f.getLineNumber()).orElse("?");
            System.out.println(where + ": " + text);
        }
    }

    void end() {
        String told = wrong == 0 ? made + " answers are as due" : wrong + " of " + made + " answers are not as due";
        System.out.println(told);
        System.exit(wrong == 0 ? 0 : 1);
    }
}
