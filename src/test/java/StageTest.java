/** Promises 1 to 12: stages, the LINE and the POOL. */
public final class StageTest {
    private static final int MAX = Integer.MAX_VALUE;
    private static final int MIN = Integer.MIN_VALUE;

    private static final int APPLY = 0;
    private static final int EXCEPTIONALLY = 1;
    private static final int HANDLE = 2;
    private static final int WHEN = 3;
    private static final int COMPOSE = 4;
    private static final int COMBINE = 5;
    private static final int EITHER = 6;
    private static final int ALL = 7;
    private static final int ANY = 8;

    private static final int PENDING = 0;
    private static final int VALUE = 1;
    private static final int FAILURE = 2;
    private static final int WRAPPED = 3;

    private static final int ADD = 0;
    private static final int REFUSE_ONE = 2;
    private static final int THROW = 3;
    private static final int CONSTANT = 4;
    private static final int DIVIDE = 5;

    private static final Checks CHECKS = new Checks();

    private StageTest() {
    }

    public static void main(String[] args) {
        newObject();
        objectsAreApart();
        source();
        thenFunctions();
        thenOnValue();
        thenOnFailure();
        thenOnWrappedFailure();
        thenRefusals();
        thenMadeOnOutcome();
        composeTakesWhatTheStageBecomes();
        composeWithoutStage();
        composeThatNeverEnds();
        composeGoesToTheLinesEnd();
        composeInEveryStage();
        composeAsync();
        bothCombine();
        bothEither();
        bothOfOneStage();
        bothRefusals();
        severalAll();
        severalAny();
        severalRefusals();
        severalOfTheHighestStage();
        lineKeepsTheOrderOfNumbers();
        complete();
        fail();
        cancel();
        settledByHandBeforeItsInputs();
        workTakesFromTheFront();
        workGoesOnWithWhatCame();
        workTakesWhatIsSettled();
        workNumbers();
        asyncOfEveryKind();
        poolKeepsTheOrderOfAbility();
        join();
        stage();
        count();
        CHECKS.end();
    }

    private static void newObject() {
        PromiseScopes x = new PromiseScopes();
        for (int which = 0; which <= 4; which++) {
            CHECKS.equal("count(" + which + ")", x.count(which), 0);
        }
        CHECKS.equal("NONE", PromiseScopes.NONE, -1);
        CHECKS.equal("stage(0, 0)", x.stage(0, 0), -1);
        CHECKS.equal("scope(0, 0)", x.scope(0, 0), -1);
        CHECKS.equal("task(0, 0)", x.task(0, 0), -1);
        CHECKS.no("complete(0, 1)", x.complete(0, 1));
        CHECKS.no("joinScope(0)", x.joinScope(0));
        CHECKS.no("bind(0, 0, 0)", x.bind(0, 0, 0));
        CHECKS.equal("work(60)", x.work(60), 0);
        CHECKS.equal("tick(0)", x.tick(0), 0);
        CHECKS.refuses("join(0)", IllegalArgumentException.class, () -> x.join(0));
        CHECKS.refuses("bound(0, 0)", IllegalArgumentException.class, () -> x.bound(0, 0));
        CHECKS.refuses("then on none", IllegalArgumentException.class, () -> x.then(0, 0, 0, 0, false));
        CHECKS.refuses("fork in none", IllegalArgumentException.class, () -> x.fork(0, 1, 0, 0));
    }

    private static void objectsAreApart() {
        PromiseScopes x = new PromiseScopes();
        PromiseScopes y = new PromiseScopes();
        x.source();
        x.open(-1, 0, -1);
        x.fork(0, 1, 0, 0);
        x.tick(1);
        for (int which = 0; which <= 4; which++) {
            CHECKS.equal("the other's count(" + which + ")", y.count(which), 0);
        }
    }

    private static void source() {
        PromiseScopes x = new PromiseScopes();
        for (int s = 0; s < 48; s++) {
            CHECKS.equal("source()", x.source(), s);
            CHECKS.stage(x, s, PENDING, 0);
            CHECKS.equal("kind of a source", x.stage(s, 2), 9);
        }
        CHECKS.equal("count(0)", x.count(0), 48);
        CHECKS.refuses("source() of 49", IllegalStateException.class, () -> x.source());
        CHECKS.equal("count(0)", x.count(0), 48);
        CHECKS.equal("stage(48, 0)", x.stage(48, 0), -1);
        CHECKS.yes("complete(47, 3)", x.complete(47, 3));
        CHECKS.stage(x, 47, VALUE, 3);
    }

    /** What kind makes of the value v. */
    private static void ofValue(int kind, int function, int a, int v, int state, int content) {
        PromiseScopes x = new PromiseScopes();
        x.source();
        CHECKS.equal("then", x.then(0, kind, function, a, false), 1);
        CHECKS.stage(x, 1, PENDING, 0);
        CHECKS.equal("its kind", x.stage(1, 2), kind);
        x.complete(0, v);
        String what = "kind " + kind + " with function " + function + ", a " + a + " of " + v + ": ";
        CHECKS.equal(what + "state", x.stage(1, 0), state);
        CHECKS.equal(what + "content", x.stage(1, 1), content);
        CHECKS.stage(x, 0, VALUE, v);
    }

    /** What kind makes of the failure e, where 0 stands for CANCELLED. */
    private static void ofFailure(int kind, int function, int a, int e, int state, int content) {
        PromiseScopes x = new PromiseScopes();
        x.source();
        x.then(0, kind, function, a, false);
        CHECKS.yes("fail or cancel", e == 0 ? x.cancel(0) : x.fail(0, e));
        String what = "kind " + kind + " with function " + function + ", a " + a + " of the failure " + e + ": ";
        CHECKS.equal(what + "state", x.stage(1, 0), state);
        CHECKS.equal(what + "content", x.stage(1, 1), content);
        CHECKS.stage(x, 0, FAILURE, e);
    }

    private static void thenFunctions() {
        ofValue(APPLY, 0, 5, 7, VALUE, 12);
        ofValue(APPLY, 0, -5, 2, VALUE, -3);
        ofValue(APPLY, 0, 1, MAX, VALUE, MIN);
        ofValue(APPLY, 0, -1, 0, VALUE, -1);
        ofValue(APPLY, 1, 3, -7, VALUE, -21);
        ofValue(APPLY, 1, 0, 7, VALUE, 0);
        ofValue(APPLY, 1, 2, MAX, VALUE, -2);
        ofValue(APPLY, 1, -1, MIN, VALUE, MIN);
        ofValue(APPLY, 2, 4, 5, VALUE, 5);
        ofValue(APPLY, 2, 4, -4, VALUE, -4);
        ofValue(APPLY, 2, 4, 4, WRAPPED, 5);
        ofValue(APPLY, 2, 7, 7, WRAPPED, 8);
        ofValue(APPLY, 2, 8, 8, WRAPPED, 1);
        ofValue(APPLY, 2, 0, 0, WRAPPED, 1);
        ofValue(APPLY, 2, -1, -1, WRAPPED, 8);
        ofValue(APPLY, 3, 0, 1, WRAPPED, 1);
        ofValue(APPLY, 3, 7, 1, WRAPPED, 8);
        ofValue(APPLY, 3, 12, 1, WRAPPED, 5);
        ofValue(APPLY, 3, -3, 1, WRAPPED, 6);
        ofValue(APPLY, 3, MIN, 1, WRAPPED, 1);
        ofValue(APPLY, 4, 9, 1, VALUE, 9);
        ofValue(APPLY, 4, 0, 1, VALUE, 0);
        ofValue(APPLY, 4, MIN, 1, VALUE, MIN);
        ofValue(APPLY, 5, 2, 7, VALUE, 3);
        ofValue(APPLY, 5, 2, -7, VALUE, -3);
        ofValue(APPLY, 5, -2, 7, VALUE, -3);
        ofValue(APPLY, 5, 8, 7, VALUE, 0);
        ofValue(APPLY, 5, 1, 7, VALUE, 7);
        ofValue(APPLY, 5, -1, MIN, VALUE, MIN);
        ofValue(APPLY, 5, 0, 7, WRAPPED, 9);
        ofValue(APPLY, 5, 0, 0, WRAPPED, 9);
    }

    private static void thenOnValue() {
        ofValue(EXCEPTIONALLY, ADD, 100, 7, VALUE, 7);
        ofValue(EXCEPTIONALLY, THROW, 1, 7, VALUE, 7);
        ofValue(HANDLE, ADD, 100, 7, VALUE, 107);
        ofValue(HANDLE, ADD, 100, -3, VALUE, 97);
        ofValue(HANDLE, THROW, 1, 7, WRAPPED, 2);
        ofValue(HANDLE, REFUSE_ONE, 7, 7, WRAPPED, 8);
        ofValue(HANDLE, REFUSE_ONE, -8, 7, VALUE, 7);
        ofValue(WHEN, ADD, 100, 7, VALUE, 7);
        ofValue(WHEN, CONSTANT, 100, -1, VALUE, -1);
        ofValue(WHEN, THROW, 1, 7, WRAPPED, 2);
        ofValue(WHEN, REFUSE_ONE, 7, 7, WRAPPED, 8);
        ofValue(WHEN, REFUSE_ONE, -8, 7, VALUE, 7);
        ofValue(WHEN, DIVIDE, 0, 7, WRAPPED, 9);
    }

    private static void thenOnFailure() {
        for (int e = 0; e <= 9; e++) {
            ofFailure(APPLY, ADD, 100, e, WRAPPED, e);
            ofFailure(APPLY, THROW, e, e, WRAPPED, e);
            ofFailure(APPLY, CONSTANT, 3, e, WRAPPED, e);
            ofFailure(EXCEPTIONALLY, ADD, 100, e, VALUE, 100 + e);
            ofFailure(EXCEPTIONALLY, DIVIDE, 0, e, WRAPPED, 9);
            ofFailure(EXCEPTIONALLY, REFUSE_ONE, e, e, WRAPPED, 1 + (e & 7));
            ofFailure(EXCEPTIONALLY, REFUSE_ONE, -1 - e, e, VALUE, e);
            ofFailure(HANDLE, ADD, 100, e, VALUE, 99 - e);
            ofFailure(HANDLE, REFUSE_ONE, -1 - e, e, WRAPPED, 1 + (-1 - e & 7));
            ofFailure(HANDLE, REFUSE_ONE, e, e, VALUE, -1 - e);
            ofFailure(HANDLE, THROW, 5, e, WRAPPED, 6);
            ofFailure(WHEN, ADD, 100, e, WRAPPED, e);
            ofFailure(WHEN, THROW, e + 3, e, WRAPPED, e);
            ofFailure(WHEN, REFUSE_ONE, -1 - e, e, WRAPPED, e);
            ofFailure(WHEN, REFUSE_ONE, e, e, WRAPPED, e);
            ofFailure(COMPOSE, CONSTANT, 0, e, WRAPPED, e);
            ofFailure(COMPOSE, THROW, e + 3, e, WRAPPED, e);
        }
    }

    private static void thenOnWrappedFailure() {
        PromiseScopes x = new PromiseScopes();
        x.source();
        x.then(0, APPLY, ADD, 0, false);
        x.then(1, APPLY, ADD, 0, false);
        x.then(2, EXCEPTIONALLY, ADD, 10, false);
        x.then(2, HANDLE, ADD, 10, false);
        x.then(2, WHEN, ADD, 10, false);
        x.then(2, COMPOSE, CONSTANT, 0, false);
        x.fail(0, 6);
        CHECKS.stage(x, 0, FAILURE, 6);
        CHECKS.stage(x, 1, WRAPPED, 6);
        CHECKS.stage(x, 2, WRAPPED, 6);
        CHECKS.stage(x, 3, VALUE, 16);
        CHECKS.stage(x, 4, VALUE, 3);
        CHECKS.stage(x, 5, WRAPPED, 6);
        CHECKS.stage(x, 6, WRAPPED, 6);
    }

    private static void thenRefusals() {
        Class<IllegalArgumentException> due = IllegalArgumentException.class;
        for (int s : new int[] {-1, 2, MAX, MIN}) {
            PromiseScopes x = twoSources();
            CHECKS.refusesIdly(x, "then on " + s, due, () -> x.then(s, 0, 0, 0, false));
            CHECKS.refusesIdly(x, "then on " + s, due, () -> x.then(s, 0, 0, 0, true));
        }
        for (int kind : new int[] {-1, 5, 6, 7, 8, 9, MAX, MIN}) {
            PromiseScopes x = twoSources();
            CHECKS.refusesIdly(x, "then of kind " + kind, due, () -> x.then(0, kind, 0, 0, false));
        }
        for (int function : new int[] {-1, 6, MAX, MIN}) {
            PromiseScopes x = twoSources();
            CHECKS.refusesIdly(x, "then of function " + function, due, () -> x.then(0, 0, function, 0, false));
        }
        CHECKS.equal("then", twoSources().then(1, 4, 5, MIN, true), 2);
        PromiseScopes full = full();
        CHECKS.refuses("then with 48 stages", IllegalStateException.class, () -> full.then(0, 0, 0, 0, false));
        CHECKS.refuses("then with 48 stages", IllegalStateException.class, () -> full.then(47, 4, 5, 0, true));
        CHECKS.refuses("wrong then with 48 stages", due, () -> full.then(48, 0, 0, 0, false));
        CHECKS.refuses("wrong then with 48 stages", due, () -> full.then(0, 5, 0, 0, false));
        CHECKS.equal("count(0)", full.count(0), 48);
    }

    /** The first one with a value, so that a stage built on it by mistake shows at once. */
    private static PromiseScopes twoSources() {
        PromiseScopes x = new PromiseScopes();
        x.source();
        x.source();
        x.complete(0, 1);
        return x;
    }

    private static PromiseScopes full() {
        PromiseScopes x = new PromiseScopes();
        for (int s = 0; s < 48; s++) {
            x.source();
        }
        return x;
    }

    private static void thenMadeOnOutcome() {
        PromiseScopes x = new PromiseScopes();
        x.source();
        x.complete(0, 4);
        CHECKS.equal("then", x.then(0, APPLY, ADD, 1, false), 1);
        CHECKS.stage(x, 1, VALUE, 5);
        CHECKS.equal("then", x.then(1, COMPOSE, CONSTANT, 0, false), 2);
        CHECKS.stage(x, 2, VALUE, 4);
        CHECKS.equal("then", x.then(1, APPLY, ADD, 1, true), 3);
        CHECKS.stage(x, 3, PENDING, 0);
        CHECKS.equal("place", x.stage(3, 3), 0);
    }

    private static void composeTakesWhatTheStageBecomes() {
        PromiseScopes x = new PromiseScopes();
        x.source();
        x.source();
        x.then(0, COMPOSE, ADD, 1, false);
        x.then(2, APPLY, ADD, 5, false);
        x.complete(0, 0);
        CHECKS.stage(x, 2, PENDING, 0);
        CHECKS.stage(x, 3, PENDING, 0);
        x.complete(1, 30);
        CHECKS.stage(x, 2, VALUE, 30);
        CHECKS.stage(x, 3, VALUE, 35);
        x.source();
        x.then(0, COMPOSE, CONSTANT, 4, false);
        x.then(5, COMPOSE, CONSTANT, 0, false);
        x.fail(4, 3);
        CHECKS.stage(x, 4, FAILURE, 3);
        CHECKS.stage(x, 5, WRAPPED, 3);
        CHECKS.stage(x, 6, WRAPPED, 3);
        x.source();
        x.then(0, COMPOSE, CONSTANT, 7, false);
        x.cancel(7);
        CHECKS.stage(x, 8, WRAPPED, 0);
        x.source();
        x.then(0, COMPOSE, CONSTANT, 9, false);
        CHECKS.yes("complete of a COMPOSE that waits", x.complete(10, 1));
        x.complete(9, 2);
        CHECKS.stage(x, 10, VALUE, 1);
    }

    private static void composeWithoutStage() {
        ofValue(COMPOSE, ADD, 0, 2, WRAPPED, 8);
        ofValue(COMPOSE, ADD, 0, 48, WRAPPED, 8);
        ofValue(COMPOSE, ADD, 0, -1, WRAPPED, 8);
        ofValue(COMPOSE, ADD, 0, MAX, WRAPPED, 8);
        ofValue(COMPOSE, ADD, 0, MIN, WRAPPED, 8);
        ofValue(COMPOSE, CONSTANT, 0, 77, VALUE, 77);
        ofValue(COMPOSE, THROW, 3, 0, WRAPPED, 4);
        ofValue(COMPOSE, DIVIDE, 0, 0, WRAPPED, 9);
        ofValue(COMPOSE, REFUSE_ONE, 0, 0, WRAPPED, 1);
        ofValue(COMPOSE, THROW, 3, 77, WRAPPED, 4);
        ofValue(COMPOSE, REFUSE_ONE, -5, -5, WRAPPED, 4);
        PromiseScopes x = new PromiseScopes();
        x.source();
        x.then(0, COMPOSE, CONSTANT, 3, true);
        x.complete(0, 1);
        x.source();
        x.source();
        x.complete(3, 9);
        x.work(1);
        CHECKS.stage(x, 1, VALUE, 9);
    }

    private static void composeThatNeverEnds() {
        ofValue(COMPOSE, CONSTANT, 1, 0, PENDING, 0);
        PromiseScopes x = new PromiseScopes();
        x.source();
        x.then(0, COMPOSE, CONSTANT, 2, false);
        x.then(0, COMPOSE, CONSTANT, 1, false);
        x.then(0, COMPOSE, CONSTANT, 3, false);
        x.complete(0, 1);
        CHECKS.stage(x, 1, PENDING, 0);
        CHECKS.stage(x, 2, PENDING, 0);
        CHECKS.stage(x, 3, PENDING, 0);
        x.cancel(3);
        CHECKS.stage(x, 3, FAILURE, 0);
        x.complete(2, 5);
        CHECKS.stage(x, 2, VALUE, 5);
        CHECKS.stage(x, 1, VALUE, 5);
    }

    private static void composeGoesToTheLinesEnd() {
        PromiseScopes x = new PromiseScopes();
        x.source();
        x.source();
        x.complete(1, 5);
        x.then(0, COMPOSE, CONSTANT, 1, false);
        x.then(0, APPLY, ADD, 70, false);
        x.several(12, ANY);
        x.both(2, 3, EITHER, ADD, 0, false);
        x.complete(0, 1);
        CHECKS.stage(x, 2, VALUE, 5);
        CHECKS.stage(x, 4, VALUE, 71);
        CHECKS.stage(x, 5, VALUE, 71);
    }

    private static void composeInEveryStage() {
        PromiseScopes x = new PromiseScopes();
        x.source();
        x.source();
        x.complete(1, 5);
        for (int s = 2; s < 48; s++) {
            x.then(0, COMPOSE, CONSTANT, s - 1, false);
        }
        CHECKS.yes("complete(0, 0)", x.complete(0, 0));
        for (int s = 2; s < 48; s++) {
            CHECKS.stage(x, s, VALUE, 5);
        }
    }

    private static void composeAsync() {
        PromiseScopes x = new PromiseScopes();
        x.source();
        x.source();
        x.then(0, COMPOSE, CONSTANT, 1, true);
        x.then(0, COMPOSE, CONSTANT, 0, true);
        x.complete(0, 6);
        CHECKS.equal("count(1)", x.count(1), 2);
        CHECKS.equal("work(1)", x.work(1), 1);
        CHECKS.stage(x, 2, PENDING, 0);
        CHECKS.equal("place of a COMPOSE that waits", x.stage(2, 3), -1);
        CHECKS.equal("place of the next", x.stage(3, 3), 0);
        x.complete(1, 8);
        CHECKS.stage(x, 2, VALUE, 8);
        CHECKS.equal("count(1)", x.count(1), 1);
        CHECKS.equal("work(1)", x.work(1), 1);
        CHECKS.stage(x, 3, VALUE, 6);
        CHECKS.equal("count(1)", x.count(1), 0);
    }

    private static void bothCombine() {
        PromiseScopes x = new PromiseScopes();
        x.source();
        x.source();
        CHECKS.equal("both", x.both(0, 1, COMBINE, 1, 3, false), 2);
        CHECKS.equal("its kind", x.stage(2, 2), 5);
        x.both(1, 0, COMBINE, REFUSE_ONE, 30, false);
        x.complete(0, 10);
        CHECKS.stage(x, 2, PENDING, 0);
        x.complete(1, 20);
        CHECKS.stage(x, 2, VALUE, 90);
        CHECKS.stage(x, 3, WRAPPED, 7);

        PromiseScopes y = new PromiseScopes();
        y.source();
        y.source();
        y.source();
        y.both(0, 1, COMBINE, THROW, 0, false);
        y.both(1, 0, COMBINE, ADD, 0, false);
        y.both(0, 2, COMBINE, ADD, 0, false);
        y.both(2, 0, COMBINE, ADD, 0, false);
        y.fail(1, 4);
        CHECKS.stage(y, 3, PENDING, 0);
        CHECKS.stage(y, 4, PENDING, 0);
        y.cancel(0);
        y.complete(2, MAX);
        CHECKS.stage(y, 3, WRAPPED, 0);
        CHECKS.stage(y, 4, WRAPPED, 4);
        CHECKS.stage(y, 5, WRAPPED, 0);
        CHECKS.stage(y, 6, WRAPPED, 0);
        y.both(2, 2, COMBINE, ADD, 0, false);
        CHECKS.stage(y, 7, VALUE, -2);
    }

    private static void bothEither() {
        PromiseScopes x = new PromiseScopes();
        x.source();
        x.source();
        CHECKS.equal("both", x.both(0, 1, EITHER, 1, 3, false), 2);
        CHECKS.equal("its kind", x.stage(2, 2), 6);
        x.both(0, 1, EITHER, THROW, 1, false);
        x.complete(1, 5);
        CHECKS.stage(x, 2, VALUE, 15);
        CHECKS.stage(x, 3, WRAPPED, 2);
        x.complete(0, 7);
        CHECKS.stage(x, 2, VALUE, 15);
        x.both(0, 1, EITHER, ADD, 0, false);
        x.both(1, 0, EITHER, ADD, 0, false);
        CHECKS.stage(x, 4, VALUE, 5);
        CHECKS.stage(x, 5, VALUE, 5);

        PromiseScopes y = new PromiseScopes();
        y.source();
        y.source();
        y.both(0, 1, EITHER, CONSTANT, 3, false);
        y.both(0, 1, EITHER, CONSTANT, 3, true);
        y.fail(1, 9);
        y.complete(0, 1);
        y.work(1);
        CHECKS.stage(y, 2, WRAPPED, 9);
        CHECKS.stage(y, 3, WRAPPED, 9);
    }

    private static void bothOfOneStage() {
        PromiseScopes x = new PromiseScopes();
        x.source();
        x.both(0, 0, COMBINE, ADD, 1, false);
        x.both(0, 0, EITHER, ADD, 1, false);
        x.complete(0, 4);
        CHECKS.stage(x, 1, VALUE, 9);
        CHECKS.stage(x, 2, VALUE, 5);
    }

    private static void bothRefusals() {
        Class<IllegalArgumentException> due = IllegalArgumentException.class;
        for (int wrong : new int[] {-1, 2, MAX, MIN}) {
            PromiseScopes x = twoSources();
            CHECKS.refusesIdly(x, "both on first " + wrong, due, () -> x.both(wrong, 1, 5, 0, 0, false));
            CHECKS.refusesIdly(x, "both on second " + wrong, due, () -> x.both(0, wrong, 6, 0, 0, false));
        }
        for (int kind : new int[] {-1, 0, 4, 7, 8, 9, MAX, MIN}) {
            PromiseScopes x = twoSources();
            CHECKS.refusesIdly(x, "both of kind " + kind, due, () -> x.both(0, 1, kind, 0, 0, false));
        }
        for (int function : new int[] {-1, 6, MAX, MIN}) {
            PromiseScopes x = twoSources();
            CHECKS.refusesIdly(x, "both of function " + function, due, () -> x.both(0, 1, 5, function, 0, true));
        }
        PromiseScopes full = full();
        CHECKS.refuses("both with 48 stages", IllegalStateException.class, () -> full.both(0, 1, 5, 0, 0, false));
        CHECKS.refuses("wrong both with 48 stages", due, () -> full.both(0, 48, 5, 0, 0, false));
        CHECKS.equal("count(0)", full.count(0), 48);
    }

    private static void severalAll() {
        PromiseScopes x = new PromiseScopes();
        for (int s = 0; s < 5; s++) {
            x.source();
        }
        CHECKS.equal("several", x.several(0b10110, ALL), 5);
        CHECKS.equal("its kind", x.stage(5, 2), 7);
        CHECKS.equal("several", x.several(0b00100, ALL), 6);
        CHECKS.equal("several", x.several(0b01011, ALL), 7);
        CHECKS.equal("several", x.several(0b01001, ALL), 8);
        x.complete(4, 400);
        x.complete(2, MAX);
        CHECKS.stage(x, 5, PENDING, 0);
        CHECKS.stage(x, 6, VALUE, MAX);
        x.complete(1, 1);
        CHECKS.stage(x, 5, VALUE, MIN + 400);
        x.fail(3, 2);
        CHECKS.stage(x, 7, PENDING, 0);
        x.fail(0, 9);
        CHECKS.stage(x, 7, WRAPPED, 9);
        CHECKS.stage(x, 8, WRAPPED, 9);
        x.several(0b01110, ALL);
        CHECKS.stage(x, 9, WRAPPED, 2);
    }

    private static void severalAny() {
        PromiseScopes x = new PromiseScopes();
        for (int s = 0; s < 4; s++) {
            x.source();
        }
        CHECKS.equal("several", x.several(0b0111, ANY), 4);
        CHECKS.equal("its kind", x.stage(4, 2), 8);
        CHECKS.equal("several", x.several(0b1001, ANY), 5);
        x.complete(2, 22);
        CHECKS.stage(x, 4, VALUE, 22);
        CHECKS.stage(x, 5, PENDING, 0);
        x.fail(3, 1);
        CHECKS.stage(x, 5, WRAPPED, 1);
        x.complete(0, 7);
        x.several(0b1101, ANY);
        x.several(0b1001, ANY);
        x.several(0b0011, ANY);
        CHECKS.stage(x, 6, VALUE, 22);
        CHECKS.stage(x, 7, WRAPPED, 1);
        CHECKS.stage(x, 8, VALUE, 7);
        x.cancel(1);
        x.several(0b0010, ANY);
        CHECKS.stage(x, 9, WRAPPED, 0);
    }

    private static void severalRefusals() {
        Class<IllegalArgumentException> due = IllegalArgumentException.class;
        for (long set : new long[] {0, 4, 7, -1, Long.MIN_VALUE, 1L << 48, 1L << 32 | 1, 1L << 63 | 1}) {
            PromiseScopes x = twoSources();
            CHECKS.refusesIdly(x, "several of " + set, due, () -> x.several(set, 7));
            CHECKS.refusesIdly(x, "several of " + set, due, () -> x.several(set, 8));
        }
        for (int kind : new int[] {-1, 0, 4, 5, 6, 9, MAX, MIN}) {
            PromiseScopes x = twoSources();
            CHECKS.refusesIdly(x, "several of kind " + kind, due, () -> x.several(3, kind));
        }
        PromiseScopes full = full();
        CHECKS.refuses("several with 48 stages", IllegalStateException.class, () -> full.several(1, 7));
        CHECKS.refuses("several with 48 stages", IllegalStateException.class, () -> full.several((1L << 48) - 1, 8));
        CHECKS.refuses("wrong several with 48 stages", due, () -> full.several(1L << 48, 7));
        CHECKS.refuses("wrong several with 48 stages", due, () -> full.several(0, 7));
        CHECKS.equal("count(0)", full.count(0), 48);
    }

    private static void severalOfTheHighestStage() {
        PromiseScopes x = new PromiseScopes();
        for (int s = 0; s < 47; s++) {
            x.source();
        }
        CHECKS.equal("several", x.several(1L << 46 | 1L << 32 | 1, ALL), 47);
        x.complete(46, 1);
        x.complete(32, 20);
        CHECKS.stage(x, 47, PENDING, 0);
        x.complete(0, 300);
        CHECKS.stage(x, 47, VALUE, 321);
    }

    private static void lineKeepsTheOrderOfNumbers() {
        PromiseScopes x = new PromiseScopes();
        x.source();
        x.then(0, APPLY, ADD, 10, false);
        x.then(0, APPLY, ADD, 20, false);
        x.then(1, APPLY, ADD, 100, false);
        x.both(2, 1, EITHER, ADD, 0, false);
        x.both(3, 2, EITHER, ADD, 0, false);
        x.several(0b1100, ANY);
        x.complete(0, 1);
        CHECKS.stage(x, 4, VALUE, 11);
        CHECKS.stage(x, 5, VALUE, 21);
        CHECKS.stage(x, 6, VALUE, 21);
    }

    private static void complete() {
        PromiseScopes x = new PromiseScopes();
        x.source();
        x.source();
        x.then(1, APPLY, ADD, 0, true);
        x.then(2, APPLY, ADD, 1, false);
        CHECKS.yes("complete(0, -1)", x.complete(0, -1));
        CHECKS.stage(x, 0, VALUE, -1);
        CHECKS.idle(x, "complete(0, 2)", 0, () -> x.complete(0, 2) ? 1 : 0);
        CHECKS.idle(x, "complete(-1, 2)", 0, () -> x.complete(-1, 2) ? 1 : 0);
        CHECKS.idle(x, "complete(4, 2)", 0, () -> x.complete(4, 2) ? 1 : 0);
        CHECKS.idle(x, "complete(MAX, 2)", 0, () -> x.complete(MAX, 2) ? 1 : 0);
        CHECKS.yes("complete(2, MIN)", x.complete(2, MIN));
        CHECKS.stage(x, 2, VALUE, MIN);
        CHECKS.stage(x, 3, VALUE, MIN + 1);
        CHECKS.yes("fail(1, 1)", x.fail(1, 1));
        CHECKS.idle(x, "complete(1, 2)", 0, () -> x.complete(1, 2) ? 1 : 0);
    }

    private static void fail() {
        PromiseScopes x = new PromiseScopes();
        for (int e = 1; e <= 9; e++) {
            int s = x.source();
            CHECKS.yes("fail", x.fail(s, e));
            CHECKS.stage(x, s, FAILURE, e);
        }
        for (int e : new int[] {0, 10, -1, MAX, MIN}) {
            PromiseScopes y = twoSources();
            CHECKS.idle(y, "fail with " + e, 0, () -> y.fail(1, e) ? 1 : 0);
        }
        int s = x.source();
        int after = x.then(s, APPLY, ADD, 0, false);
        CHECKS.no("fail(-1, 1)", x.fail(-1, 1));
        CHECKS.no("fail(11, 1)", x.fail(11, 1));
        CHECKS.no("fail(0, 2)", x.fail(0, 2));
        CHECKS.stage(x, 0, FAILURE, 1);
        CHECKS.yes("fail of a stage that is no source", x.fail(after, 4));
        CHECKS.stage(x, after, FAILURE, 4);
        CHECKS.yes("complete", x.complete(s, 1));
        CHECKS.no("fail of a value", x.fail(s, 1));
        CHECKS.stage(x, after, FAILURE, 4);
    }

    private static void cancel() {
        PromiseScopes x = new PromiseScopes();
        x.source();
        x.then(0, APPLY, ADD, 0, false);
        x.then(1, APPLY, ADD, 0, false);
        CHECKS.yes("cancel(1)", x.cancel(1));
        CHECKS.stage(x, 0, PENDING, 0);
        CHECKS.stage(x, 1, FAILURE, 0);
        CHECKS.stage(x, 2, WRAPPED, 0);
        CHECKS.idle(x, "cancel(1)", 0, () -> x.cancel(1) ? 1 : 0);
        CHECKS.idle(x, "cancel(2)", 0, () -> x.cancel(2) ? 1 : 0);
        CHECKS.idle(x, "cancel(3)", 0, () -> x.cancel(3) ? 1 : 0);
        CHECKS.idle(x, "cancel(-1)", 0, () -> x.cancel(-1) ? 1 : 0);
        CHECKS.yes("cancel(0)", x.cancel(0));
        CHECKS.stage(x, 0, FAILURE, 0);
    }

    private static void settledByHandBeforeItsInputs() {
        PromiseScopes x = new PromiseScopes();
        x.source();
        x.source();
        x.then(0, APPLY, ADD, 1, false);
        x.both(0, 1, COMBINE, ADD, 1, false);
        x.several(3, ALL);
        x.several(3, ANY);
        for (int s = 2; s <= 5; s++) {
            CHECKS.yes("complete", x.complete(s, 50 + s));
        }
        x.complete(0, 1);
        x.complete(1, 1);
        for (int s = 2; s <= 5; s++) {
            CHECKS.stage(x, s, VALUE, 50 + s);
        }
    }

    private static void workTakesFromTheFront() {
        PromiseScopes x = new PromiseScopes();
        x.source();
        x.then(0, APPLY, ADD, 1, true);
        x.then(0, APPLY, ADD, 2, true);
        x.then(0, APPLY, ADD, 3, true);
        x.then(1, APPLY, ADD, 10, false);
        x.complete(0, 0);
        CHECKS.equal("count(1)", x.count(1), 3);
        CHECKS.idle(x, "work(0)", 0, () -> x.work(0));
        CHECKS.equal("work(2)", x.work(2), 2);
        CHECKS.stage(x, 1, VALUE, 1);
        CHECKS.stage(x, 2, VALUE, 2);
        CHECKS.stage(x, 3, PENDING, 0);
        CHECKS.stage(x, 4, VALUE, 11);
        CHECKS.equal("place of the one left", x.stage(3, 3), 0);
        CHECKS.equal("count(1)", x.count(1), 1);
        CHECKS.equal("work(60)", x.work(60), 1);
        CHECKS.stage(x, 3, VALUE, 3);
        CHECKS.equal("work(60)", x.work(60), 0);
    }

    private static void workGoesOnWithWhatCame() {
        PromiseScopes x = new PromiseScopes();
        x.source();
        x.then(0, APPLY, ADD, 1, true);
        x.then(1, APPLY, ADD, 1, false);
        x.then(2, APPLY, ADD, 1, true);
        x.then(3, APPLY, ADD, 1, true);
        x.complete(0, 0);
        CHECKS.equal("count(1)", x.count(1), 1);
        CHECKS.equal("work(2)", x.work(2), 2);
        CHECKS.stage(x, 3, VALUE, 3);
        CHECKS.stage(x, 4, PENDING, 0);
        CHECKS.equal("work(9)", x.work(9), 1);
        CHECKS.stage(x, 4, VALUE, 4);
    }

    private static void workTakesWhatIsSettled() {
        PromiseScopes x = new PromiseScopes();
        x.source();
        x.then(0, APPLY, ADD, 1, true);
        x.then(0, APPLY, ADD, 2, true);
        x.complete(0, 0);
        CHECKS.yes("cancel(1)", x.cancel(1));
        CHECKS.equal("place of a settled one", x.stage(1, 3), 0);
        CHECKS.equal("count(1)", x.count(1), 2);
        CHECKS.equal("work(1)", x.work(1), 1);
        CHECKS.stage(x, 1, FAILURE, 0);
        CHECKS.stage(x, 2, PENDING, 0);
        CHECKS.equal("work(1)", x.work(1), 1);
        CHECKS.stage(x, 2, VALUE, 2);
    }

    private static void workNumbers() {
        PromiseScopes x = new PromiseScopes();
        x.source();
        x.complete(0, 0);
        for (int i = 0; i < 47; i++) {
            x.then(0, APPLY, ADD, i, true);
        }
        for (int n : new int[] {-1, 61, MAX, MIN}) {
            CHECKS.equal("work(" + n + ")", x.work(n), -1);
        }
        CHECKS.equal("count(1)", x.count(1), 47);
        CHECKS.equal("place of the last", x.stage(47, 3), 46);
        CHECKS.equal("work(60)", x.work(60), 47);
        CHECKS.stage(x, 47, VALUE, 46);
    }

    private static void asyncOfEveryKind() {
        PromiseScopes x = new PromiseScopes();
        x.source();
        x.source();
        for (int kind = APPLY; kind <= COMPOSE; kind++) {
            x.then(0, kind, CONSTANT, 1, true);
        }
        x.both(0, 1, COMBINE, CONSTANT, 1, true);
        x.both(0, 1, EITHER, CONSTANT, 1, true);
        x.several(3, ALL);
        x.several(3, ANY);
        x.complete(1, 12);
        CHECKS.equal("count(1)", x.count(1), 1);
        x.complete(0, 5);
        CHECKS.stage(x, 9, VALUE, 17);
        CHECKS.stage(x, 10, VALUE, 12);
        int[] places = {1, 2, 3, 4, 5, 6, 0};
        for (int i = 0; i < places.length; i++) {
            CHECKS.stage(x, 2 + i, PENDING, 0);
            CHECKS.equal("place of " + (2 + i), x.stage(2 + i, 3), places[i]);
        }
        CHECKS.equal("work(60)", x.work(60), 7);
        int[] values = {1, 5, 1, 5, 12, 1, 1};
        for (int i = 0; i < values.length; i++) {
            CHECKS.stage(x, 2 + i, VALUE, values[i]);
        }
    }

    private static void poolKeepsTheOrderOfAbility() {
        PromiseScopes x = new PromiseScopes();
        x.source();
        x.source();
        x.then(0, APPLY, ADD, 1, true);
        x.then(1, APPLY, ADD, 2, true);
        x.then(0, APPLY, ADD, 3, true);
        x.complete(1, 0);
        x.complete(0, 0);
        CHECKS.equal("place of 3", x.stage(3, 3), 0);
        CHECKS.equal("place of 2", x.stage(2, 3), 1);
        CHECKS.equal("place of 4", x.stage(4, 3), 2);
        CHECKS.equal("place of a source", x.stage(0, 3), -1);
        x.several(0b11100, ANY);
        x.work(60);
        CHECKS.stage(x, 5, VALUE, 2);
    }

    private static void join() {
        PromiseScopes x = new PromiseScopes();
        x.source();
        x.then(0, APPLY, ADD, 1, false);
        x.source();
        CHECKS.refusesIdly(x, "join(0)", UnsupportedOperationException.class, () -> x.join(0));
        CHECKS.refusesIdly(x, "join(1)", UnsupportedOperationException.class, () -> x.join(1));
        CHECKS.refusesIdly(x, "join(3)", IllegalArgumentException.class, () -> x.join(3));
        CHECKS.refusesIdly(x, "join(-1)", IllegalArgumentException.class, () -> x.join(-1));
        CHECKS.refusesIdly(x, "join(MAX)", IllegalArgumentException.class, () -> x.join(MAX));
        x.complete(0, -2);
        CHECKS.equal("join(0)", x.join(0), -2);
        CHECKS.equal("join(1)", x.join(1), -1);
        x.fail(2, 4);
        x.then(2, APPLY, ADD, 0, false);
        x.source();
        x.cancel(4);
        CHECKS.refusesIdly(x, "join of a failure", IllegalStateException.class, () -> x.join(2));
        CHECKS.refusesIdly(x, "join of a wrapped one", IllegalStateException.class, () -> x.join(3));
        CHECKS.refusesIdly(x, "join of a cancelled one", IllegalStateException.class, () -> x.join(4));
    }

    private static void stage() {
        PromiseScopes x = new PromiseScopes();
        x.source();
        x.then(0, WHEN, ADD, 1, true);
        CHECKS.equal("stage(1, 2)", x.stage(1, 2), 3);
        CHECKS.equal("stage(1, 3)", x.stage(1, 3), -1);
        x.complete(0, -1);
        CHECKS.equal("stage(0, 1)", x.stage(0, 1), -1);
        CHECKS.equal("stage(1, 3)", x.stage(1, 3), 0);
        for (int w : new int[] {-1, 4, 9, MAX, MIN}) {
            CHECKS.equal("stage(0, " + w + ")", x.stage(0, w), -1);
        }
        for (int s : new int[] {-1, 2, 48, MAX, MIN}) {
            for (int w = 0; w <= 3; w++) {
                CHECKS.equal("stage(" + s + ", " + w + ")", x.stage(s, w), -1);
            }
        }
    }

    private static void count() {
        PromiseScopes x = new PromiseScopes();
        x.source();
        x.complete(0, 1);
        x.then(0, APPLY, ADD, 1, true);
        x.then(0, APPLY, ADD, 1, true);
        x.open(-1, 0, -1);
        x.open(0, 0, -1);
        x.open(0, 0, -1);
        for (int t = 0; t < 5; t++) {
            x.fork(t % 3, 1, 0, 0);
        }
        x.tick(9);
        int[] due = {6, 2, 3, 5, 9};
        for (int which = 0; which < due.length; which++) {
            CHECKS.equal("count(" + which + ")", x.count(which), due[which]);
        }
        for (int which : new int[] {-1, 5, MAX, MIN}) {
            CHECKS.equal("count(" + which + ")", x.count(which), -1);
        }
    }
}
