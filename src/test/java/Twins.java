import java.util.function.Consumer;
import java.util.function.Function;
import java.util.function.Predicate;
import java.util.function.ToIntFunction;

/**
 * Objects with the same past: one on which a refused call was made must look like one on which it
 * was not, at once and after whatever comes then.
 */
final class Twins {
    private final Checks checks;
    private final Consumer<PromiseScopes> past;

    Twins(Checks checks, Consumer<PromiseScopes> past) {
        this.checks = checks;
        this.past = past;
    }

    void throwIllegalArgument(String what, ToIntFunction<PromiseScopes> call) {
        refuse(what, "throws.IllegalArgumentException", call);
    }

    void throwIllegalState(String what, ToIntFunction<PromiseScopes> call) {
        refuse(what, "throws.IllegalStateException", call);
    }

    void throwUnsupported(String what, ToIntFunction<PromiseScopes> call) {
        refuse(what, "throws.UnsupportedOperationException", call);
    }

    void answerNone(String what, ToIntFunction<PromiseScopes> call) {
        refuse(what, "-1", call);
    }

    void answerFalse(String what, Predicate<PromiseScopes> call) {
        refuse(what, "0", x -> call.test(x) ? 1 : 0);
    }

    private void refuse(String what, String due, ToIntFunction<PromiseScopes> call) {
        checks.same(what, answerOf(call, one()), due);
        leaveAsItWas("the stages behind " + what, call, Snapshot::ofStages);
        leaveAsItWas("the scopes behind " + what, call, Snapshot::ofScopes);
        leaveAsItWas("the stages later on behind " + what, call, x -> {
            goOn(x);
            return Snapshot.ofStages(x);
        });
        leaveAsItWas("the scopes later on behind " + what, call, x -> {
            goOn(x);
            return Snapshot.ofScopes(x);
        });
    }

    private void leaveAsItWas(String what, ToIntFunction<PromiseScopes> call, Function<PromiseScopes, String> look) {
        PromiseScopes called = one();
        answerOf(call, called);
        checks.same(what, look.apply(called), look.apply(one()));
    }

    private PromiseScopes one() {
        PromiseScopes x = new PromiseScopes();
        past.accept(x);
        return x;
    }

    private static String answerOf(ToIntFunction<PromiseScopes> call, PromiseScopes x) {
        return Checks.outcomeOf(() -> call.applyAsInt(x));
    }

    /** Brings to light what can't be asked at once: functions, inputs, waits, costs and the order of outcomes. */
    private static void goOn(PromiseScopes x) {
        int scopes = x.count(2);
        answerOf(y -> y.source(), x);
        for (int p = 0; p < scopes; p++) {
            int scope = p;
            answerOf(y -> y.fork(scope, 2, 0, 1), x);
        }
        x.tick(1);
        for (int p = scopes - 1; p >= 0; p--) {
            x.joinScope(p);
        }
        x.tick(60);
        int stages = x.count(0);
        answerOf(y -> y.several((1L << stages) - 1, 8), x);
        for (int s = 0; s < stages; s++) {
            if (x.stage(s, 2) == 9) {
                x.complete(s, 3 + s);
            }
        }
        x.work(60);
    }
}
