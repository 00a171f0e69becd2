/**
 * The terms on scopes and tasks, and promises 13 to 21: each sentence that names a boundary case has
 * a test of its own. What is refused stands in RefusalTest.
 */
public final class ScopeBoundaryTest {
    private static final int MAX = Integer.MAX_VALUE;
    private static final int MIN = Integer.MIN_VALUE;

    private static final int ALL = 0;
    private static final int FAIL_FAST = 1;
    private static final int FIRST = 2;

    private static final int OPEN = 0;
    private static final int JOINING = 1;
    private static final int CLOSED = 2;

    private static final int RUNNING = 0;
    private static final int DONE = 1;
    private static final int FAILED = 2;
    private static final int CANCELLED = 3;

    private static final int NOT_STOPPED = 0;
    private static final int STOPPED = 1;
    private static final int STOPPED_AND_LATE = 3;

    private static final int PENDING = 0;
    private static final int VALUE = 1;
    private static final int FAILURE = 2;
    private static final int WRAPPED = 3;

    private static final int ADD = 0;
    private static final int MULTIPLY = 1;
    private static final int REFUSE_ONE = 2;
    private static final int THROW = 3;
    private static final int CONSTANT = 4;
    private static final int DIVIDE = 5;

    private static final Checks CHECKS = new Checks();

    private ScopeBoundaryTest() {
    }

    public static void main(String[] args) {
        Sentences.runAll(ScopeBoundaryTest.class, CHECKS);
    }

    private static PromiseScopes oneScope(int policy, int deadline) {
        PromiseScopes x = new PromiseScopes();
        x.open(-1, policy, deadline);
        return x;
    }

    /** Scopes 0 .. 11, each the parent of the next. */
    private static PromiseScopes chainOf12() {
        PromiseScopes x = new PromiseScopes();
        for (int p = 0; p < 12; p++) {
            CHECKS.equal("open", x.open(p - 1, ALL, -1), p);
        }
        return x;
    }

    private static void task(PromiseScopes x, int task, int state, int worked, int content) {
        CHECKS.equal("task(" + task + ", 0)", x.task(task, 0), state);
        CHECKS.equal("task(" + task + ", 2)", x.task(task, 2), worked);
        CHECKS.equal("task(" + task + ", 3)", x.task(task, 3), content);
    }

    private static void state(PromiseScopes x, int scope, int state, int stopped) {
        CHECKS.equal("scope(" + scope + ", 0)", x.scope(scope, 0), state);
        CHECKS.equal("scope(" + scope + ", 4)", x.scope(scope, 4), stopped);
    }

    private static void result(PromiseScopes x, int scope, int state, int content) {
        CHECKS.stage(x, x.scope(scope, 1), state, content);
    }

    // ---- terms: what a scope has

    @Says("SCOPES are numbered 0, 1, .., at most 12")
    private static void theTwelfthScopeIsMade() {
        PromiseScopes x = chainOf12();
        CHECKS.equal("count(2)", x.count(2), 12);
        CHECKS.refuses("open of a 13th", IllegalStateException.class, () -> x.open(-1, ALL, -1));
        CHECKS.yes("bind", x.bind(11, 3, 9));
        CHECKS.equal("fork", x.fork(11, 1, CONSTANT, 5), 0);
        CHECKS.yes("joinScope", x.joinScope(11));
        CHECKS.equal("tick(1)", x.tick(1), 1);
        state(x, 11, CLOSED, NOT_STOPPED);
        result(x, 11, VALUE, 5);
        CHECKS.refuses("open of a 13th behind a close", IllegalStateException.class, () -> x.open(-1, ALL, -1));
    }

    @Says("TASKS too, at most 30.")
    private static void theThirtiethTaskIsMade() {
        PromiseScopes x = oneScope(ALL, -1);
        for (int t = 0; t < 30; t++) {
            CHECKS.equal("fork", x.fork(0, 1, CONSTANT, t), t);
        }
        CHECKS.equal("count(3)", x.count(3), 30);
        CHECKS.refuses("fork of a 31st", IllegalStateException.class, () -> x.fork(0, 1, CONSTANT, 30));
        CHECKS.equal("tick(1)", x.tick(1), 30);
        task(x, 29, DONE, 1, 29);
        CHECKS.refuses("fork of a 31st behind an end", IllegalStateException.class, () -> x.fork(0, 1, CONSTANT, 30));
        x.joinScope(0);
        result(x, 0, VALUE, 435);
    }

    @Says("A scope has a PARENT (another open scope, or none)")
    private static void theFirstAndTheLastScopeAreParents() {
        PromiseScopes x = oneScope(ALL, -1);
        CHECKS.equal("open in the first", x.open(0, ALL, -1), 1);
        CHECKS.equal("open in the last", x.open(1, ALL, -1), 2);
        CHECKS.equal("open in none", x.open(-1, ALL, -1), 3);
        x.bind(0, 1, 5);
        int[] due = {5, 5, 5, 0};
        for (int p = 0; p < due.length; p++) {
            CHECKS.equal("bound(" + p + ", 1)", x.bound(p, 1), due[p]);
        }
    }

    @Says("a RESULT, a stage, a SOURCE made with it.")
    private static void theResultIsASource() {
        PromiseScopes x = new PromiseScopes();
        for (int s = 0; s < 47; s++) {
            x.source();
        }
        x.open(-1, ALL, -1);
        CHECKS.equal("its result", x.scope(0, 1), 47);
        CHECKS.equal("its kind", x.stage(47, 2), 9);
        result(x, 0, PENDING, 0);
        x.joinScope(0);
        result(x, 0, VALUE, 0);
    }

    @Says("It is OPEN, then JOINING, then CLOSED.")
    private static void aScopeGoesThroughItsStates() {
        PromiseScopes x = oneScope(ALL, -1);
        x.fork(0, 2, CONSTANT, 1);
        state(x, 0, OPEN, NOT_STOPPED);
        x.joinScope(0);
        state(x, 0, JOINING, NOT_STOPPED);
        x.tick(1);
        state(x, 0, JOINING, NOT_STOPPED);
        x.tick(1);
        state(x, 0, CLOSED, NOT_STOPPED);
    }

    @Says("parent -1: none; deadline below 0: none: its number.")
    private static void deadlinesBelowZeroAreNone() {
        for (int deadline : new int[] {-1, -2, MIN}) {
            PromiseScopes x = oneScope(ALL, deadline);
            CHECKS.equal("scope(0, 2)", x.scope(0, 2), -1);
            x.fork(0, 50, CONSTANT, 1);
            x.tick(49);
            state(x, 0, OPEN, NOT_STOPPED);
            CHECKS.equal("tick(60)", x.tick(60), 1);
        }
        PromiseScopes y = oneScope(ALL, 0);
        CHECKS.equal("scope(0, 2)", y.scope(0, 2), 0);
        y.tick(1);
        state(y, 0, OPEN, STOPPED_AND_LATE);
    }

    @Says("Its EFFECTIVE deadline is the least of its own and its parent's effective one.")
    private static void effectiveDeadlines() {
        int[] parents = {-1, MIN, 0, 0, 5, 5, 5, 5, 5, 5, MAX, MAX};
        int[] owns = {7, 7, 0, MAX, 0, 4, 5, 6, -1, MIN, MAX, MAX - 1};
        int[] due = {7, 7, 0, 0, 0, 4, 5, 5, 5, 5, MAX, MAX - 1};
        for (int i = 0; i < due.length; i++) {
            PromiseScopes x = oneScope(ALL, parents[i]);
            x.open(0, ALL, owns[i]);
            CHECKS.equal("scope(1, 2)", x.scope(1, 2), due[i]);
            CHECKS.equal("scope(0, 2)", x.scope(0, 2), Math.max(-1, parents[i]));
        }
    }

    @Says("the least of its own and its parent's effective one")
    private static void effectiveDeadlinesGoDownAllTheWay() {
        PromiseScopes x = oneScope(ALL, 9);
        for (int p = 1; p < 12; p++) {
            x.open(p - 1, ALL, p == 6 ? 8 : p == 11 ? 10 : -1);
            CHECKS.equal("scope(" + p + ", 2)", x.scope(p, 2), p < 6 ? 9 : 8);
        }
    }

    @Says("TIME is 0 at first.")
    private static void theTimeIsZeroAtFirst() {
        PromiseScopes x = new PromiseScopes();
        CHECKS.equal("count(4)", x.count(4), 0);
        x.tick(0);
        CHECKS.equal("count(4)", x.count(4), 0);
        x.tick(1);
        CHECKS.equal("count(4)", x.count(4), 1);
    }

    @Says("A scope is below another one if that is its PARENT, or its PARENT is below that.")
    private static void theTwelfthIsBelowTheFirst() {
        PromiseScopes x = chainOf12();
        x.fork(11, 50, CONSTANT, 1);
        for (int p = 0; p < 11; p++) {
            CHECKS.no("joinScope(" + p + ")", x.joinScope(p));
        }
        x.cancelScope(0);
        for (int p = 0; p < 12; p++) {
            state(x, p, OPEN, STOPPED);
        }
        task(x, 0, CANCELLED, 0, 0);
        for (int p = 11; p >= 0; p--) {
            CHECKS.yes("joinScope(" + p + ")", x.joinScope(p));
            state(x, p, CLOSED, STOPPED);
        }
    }

    @Says("A scope is below another one if that is its PARENT")
    private static void neitherItselfNorItsParentNorASiblingIsBelow() {
        PromiseScopes x = oneScope(ALL, -1);
        x.open(0, ALL, -1);
        x.open(0, ALL, -1);
        x.open(-1, ALL, -1);
        CHECKS.yes("joinScope(1)", x.joinScope(1));
        state(x, 1, CLOSED, NOT_STOPPED);
        CHECKS.no("joinScope(0)", x.joinScope(0));
        CHECKS.yes("joinScope(2)", x.joinScope(2));
        CHECKS.yes("joinScope(0)", x.joinScope(0));
        state(x, 3, OPEN, NOT_STOPPED);
    }

    @Says("A key's value in a scope is what it binds it to, else what its parent has, else there is none.")
    private static void valuesAreHandedDown() {
        PromiseScopes x = chainOf12();
        CHECKS.equal("bound to nothing", x.bound(11, 3), 0);
        x.bind(0, 3, MAX);
        CHECKS.equal("bound at the top", x.bound(11, 3), MAX);
        x.bind(5, 3, 0);
        CHECKS.equal("bound to 0 between", x.bound(11, 3), 0);
        CHECKS.equal("bound above that", x.bound(4, 3), MAX);
        x.bind(11, 3, MIN);
        CHECKS.equal("bound at the bottom", x.bound(11, 3), MIN);
        CHECKS.equal("bound above that", x.bound(10, 3), 0);
    }

    @Says("a BINDING of values to the KEYS 0 .. 3")
    private static void theKeysAreApart() {
        PromiseScopes x = oneScope(ALL, -1);
        int[] values = {MIN, -1, 1, MAX};
        for (int key = 3; key >= 0; key--) {
            CHECKS.yes("bind", x.bind(0, key, values[key]));
        }
        for (int key = 0; key <= 3; key++) {
            CHECKS.equal("bound", x.bound(0, key), values[key]);
        }
    }

    // ---- terms: tasks

    @Says("A task is forked in an OPEN scope with a COST, 1 .. 50")
    private static void theLeastAndTheGreatestCost() {
        PromiseScopes x = oneScope(ALL, -1);
        x.fork(0, 1, CONSTANT, 1);
        x.fork(0, 50, CONSTANT, 2);
        CHECKS.equal("tick(1)", x.tick(1), 1);
        task(x, 0, DONE, 1, 1);
        CHECKS.equal("tick(48)", x.tick(48), 0);
        task(x, 1, RUNNING, 49, 0);
        CHECKS.equal("tick(1)", x.tick(1), 1);
        task(x, 1, DONE, 50, 2);
        CHECKS.equal("tick(60)", x.tick(60), 0);
        task(x, 0, DONE, 1, 1);
        task(x, 1, DONE, 50, 2);
    }

    @Says("its x is the value of key 0 in the scope then, or 0.")
    private static void xIsTheValueOfKeyZero() {
        PromiseScopes x = oneScope(ALL, -1);
        x.open(0, ALL, -1);
        x.bind(0, 1, 55);
        x.fork(1, 1, ADD, 3);
        x.bind(0, 0, MAX);
        x.fork(1, 1, ADD, 3);
        x.bind(1, 0, 0);
        x.fork(1, 1, ADD, 3);
        x.tick(1);
        task(x, 0, DONE, 1, 3);
        task(x, 1, DONE, 1, MIN + 2);
        task(x, 2, DONE, 1, 3);
    }

    @Says("An OPEN scope binds a key to v from now on (what was forked already does not change)")
    private static void whatWasForkedDoesNotChange() {
        PromiseScopes x = oneScope(ALL, -1);
        x.bind(0, 0, 10);
        x.fork(0, 2, ADD, 1);
        x.bind(0, 0, 20);
        x.fork(0, 2, ADD, 1);
        x.tick(1);
        x.bind(0, 0, 30);
        x.tick(1);
        task(x, 0, DONE, 2, 11);
        task(x, 1, DONE, 2, 21);
    }

    private static void ends(int v, int function, int a, int state, int content) {
        PromiseScopes x = oneScope(ALL, -1);
        x.bind(0, 0, v);
        x.fork(0, 1, function, a);
        x.joinScope(0);
        CHECKS.equal("tick(1)", x.tick(1), 1);
        task(x, 0, state, 1, content);
        CHECKS.equal("scope(0, 5)", x.scope(0, 5), state == FAILED ? 1 : 0);
        result(x, 0, state == DONE ? VALUE : FAILURE, content);
    }

    @Says("DONE (with a value), FAILED (with what the function threw)")
    private static void functionsOfTasks() {
        ends(MAX, ADD, 1, DONE, MIN);
        ends(MIN, ADD, -1, DONE, MAX);
        ends(65536, MULTIPLY, 65536, DONE, 0);
        ends(MIN, MULTIPLY, -1, DONE, MIN);
        ends(-1, REFUSE_ONE, -1, FAILED, 8);
        ends(8, REFUSE_ONE, 8, FAILED, 1);
        ends(7, REFUSE_ONE, 8, DONE, 7);
        ends(0, THROW, 7, FAILED, 8);
        ends(0, THROW, MIN, FAILED, 1);
        ends(5, CONSTANT, -1, DONE, -1);
        ends(-7, DIVIDE, 2, DONE, -3);
        ends(MIN, DIVIDE, -1, DONE, MIN);
        ends(0, DIVIDE, 0, FAILED, 9);
    }

    @Says("one that was cancelled meanwhile does not work.")
    private static void whatIsCancelledInATickDoesNotWork() {
        PromiseScopes x = oneScope(FIRST, -1);
        x.fork(0, 1 + 1, CONSTANT, 1);
        x.fork(0, 1, CONSTANT, 2);
        x.fork(0, 1, CONSTANT, 3);
        CHECKS.equal("tick(1)", x.tick(1), 1);
        task(x, 0, CANCELLED, 1, 0);
        task(x, 1, DONE, 1, 2);
        task(x, 2, CANCELLED, 0, 0);
        CHECKS.equal("tick(60)", x.tick(60), 0);
        task(x, 0, CANCELLED, 1, 0);
        task(x, 2, CANCELLED, 0, 0);
    }

    @Says("if its scope's policy is FAIL FAST and it FAILED, or FIRST and it is DONE, the scope is STOPPED")
    private static void eachPolicyWithEachEnd() {
        for (int policy = ALL; policy <= FIRST; policy++) {
            for (int function : new int[] {CONSTANT, THROW}) {
                PromiseScopes x = oneScope(policy, -1);
                x.fork(0, 1, function, 0);
                x.fork(0, 2, CONSTANT, 0);
                x.tick(1);
                boolean stops = policy == FAIL_FAST && function == THROW || policy == FIRST && function == CONSTANT;
                state(x, 0, OPEN, stops ? STOPPED : NOT_STOPPED);
                task(x, 1, stops ? CANCELLED : RUNNING, stops ? 0 : 1, 0);
            }
        }
    }

    @Says("all its running tasks are CANCELLED")
    private static void whatEndedIsNotCancelled() {
        PromiseScopes x = oneScope(ALL, -1);
        x.fork(0, 1, CONSTANT, 6);
        x.fork(0, 1, THROW, 6);
        x.fork(0, 2, CONSTANT, 6);
        x.tick(1);
        x.cancelScope(0);
        task(x, 0, DONE, 1, 6);
        task(x, 1, FAILED, 1, 7);
        task(x, 2, CANCELLED, 1, 0);
        CHECKS.equal("scope(0, 3)", x.scope(0, 3), 0);
        CHECKS.equal("scope(0, 5)", x.scope(0, 5), 1);
    }

    @Says("all scopes below it that are not closed are stopped, too.")
    private static void whatIsClosedIsNotStopped() {
        PromiseScopes x = oneScope(ALL, -1);
        x.open(0, ALL, -1);
        x.open(1, ALL, -1);
        x.open(1, ALL, -1);
        x.open(1, ALL, -1);
        x.fork(3, 9, CONSTANT, 1);
        x.joinScope(2);
        x.joinScope(3);
        x.cancelScope(1);
        state(x, 0, OPEN, NOT_STOPPED);
        state(x, 1, OPEN, STOPPED);
        state(x, 2, CLOSED, NOT_STOPPED);
        state(x, 3, CLOSED, STOPPED);
        state(x, 4, OPEN, STOPPED);
    }

    // ---- terms: deadlines

    @Says("every scope that is not closed and whose effective deadline is the time then, or before it, "
            + "is stopped, and is LATE.")
    private static void theDeadlineIsTheTimeThen() {
        PromiseScopes x = oneScope(ALL, 3);
        x.fork(0, 2, CONSTANT, 1);
        x.fork(0, 3, CONSTANT, 2);
        CHECKS.equal("tick(2)", x.tick(2), 1);
        state(x, 0, OPEN, NOT_STOPPED);
        task(x, 1, RUNNING, 2, 0);
        CHECKS.equal("tick(1)", x.tick(1), 0);
        state(x, 0, OPEN, STOPPED_AND_LATE);
        task(x, 0, DONE, 2, 1);
        task(x, 1, CANCELLED, 2, 0);
    }

    @Says("whose effective deadline is the time then, or before it")
    private static void theDeadlineIsOverBeforeTheScopeIsMade() {
        for (int deadline = 4; deadline <= 7; deadline++) {
            PromiseScopes x = new PromiseScopes();
            x.tick(5);
            x.open(-1, ALL, deadline);
            x.fork(0, 1, CONSTANT, 1);
            state(x, 0, OPEN, NOT_STOPPED);
            task(x, 0, RUNNING, 0, 0);
            CHECKS.equal("tick(1)", x.tick(1), deadline > 6 ? 1 : 0);
            state(x, 0, OPEN, deadline > 6 ? NOT_STOPPED : STOPPED_AND_LATE);
        }
    }

    @Says("(The time grows by 1 at the beginning of a tick, before that.)")
    private static void deadlinesZeroAndOneAreOverInTheFirstTick() {
        for (int deadline = 0; deadline <= 2; deadline++) {
            PromiseScopes x = oneScope(ALL, deadline);
            x.fork(0, 1, CONSTANT, 1);
            x.tick(0);
            state(x, 0, OPEN, NOT_STOPPED);
            CHECKS.equal("tick(1)", x.tick(1), deadline == 2 ? 1 : 0);
            state(x, 0, OPEN, deadline == 2 ? NOT_STOPPED : STOPPED_AND_LATE);
        }
    }

    @Says("every scope that is not closed")
    private static void aClosedScopeIsNotLate() {
        PromiseScopes x = oneScope(ALL, 2);
        x.open(0, ALL, -1);
        x.fork(1, 1, CONSTANT, 5);
        x.joinScope(1);
        x.tick(2);
        state(x, 0, OPEN, STOPPED_AND_LATE);
        state(x, 1, CLOSED, NOT_STOPPED);
        result(x, 1, VALUE, 5);
    }

    @Says("every scope that is not closed and whose effective deadline is the time then")
    private static void aJoiningScopeCanBeLate() {
        PromiseScopes x = oneScope(ALL, 1);
        x.fork(0, 1, CONSTANT, 5);
        x.joinScope(0);
        CHECKS.equal("tick(1)", x.tick(1), 0);
        state(x, 0, CLOSED, STOPPED_AND_LATE);
        result(x, 0, FAILURE, 7);
    }

    @Says("whose effective deadline is the time then")
    private static void thoseBelowAreLateWithTheirParent() {
        PromiseScopes x = oneScope(ALL, 4);
        for (int p = 1; p < 12; p++) {
            x.open(p - 1, ALL, p == 11 ? 2 : 9);
        }
        x.tick(1);
        state(x, 11, OPEN, NOT_STOPPED);
        x.tick(1);
        state(x, 10, OPEN, NOT_STOPPED);
        state(x, 11, OPEN, STOPPED_AND_LATE);
        x.tick(2);
        for (int p = 0; p < 12; p++) {
            state(x, p, OPEN, STOPPED_AND_LATE);
        }
    }

    @Says("4: 1 if it was stopped, + 2 if LATE")
    private static void aStoppedScopeCanBeLateAsWell() {
        PromiseScopes x = oneScope(ALL, 2);
        x.cancelScope(0);
        state(x, 0, OPEN, STOPPED);
        x.tick(1);
        state(x, 0, OPEN, STOPPED);
        x.tick(1);
        state(x, 0, OPEN, STOPPED_AND_LATE);
    }

    @Says("a DEADLINE (a time, or none)")
    private static void theGreatestDeadlineIsNotOver() {
        PromiseScopes x = oneScope(ALL, MAX);
        x.fork(0, 50, CONSTANT, 1);
        x.tick(60);
        state(x, 0, OPEN, NOT_STOPPED);
        task(x, 0, DONE, 50, 1);
    }

    // ---- terms: closing

    @Says("is CLOSED: at the end of joinScope()")
    private static void closedByJoinScope() {
        PromiseScopes x = oneScope(ALL, -1);
        x.fork(0, 1, CONSTANT, 5);
        x.then(0, 0, ADD, 1, false);
        x.tick(1);
        state(x, 0, OPEN, NOT_STOPPED);
        result(x, 0, PENDING, 0);
        CHECKS.yes("joinScope(0)", x.joinScope(0));
        state(x, 0, CLOSED, NOT_STOPPED);
        CHECKS.stage(x, 1, VALUE, 6);
    }

    @Says("at the end of joinScope(), of every tick")
    private static void closedByTheTickInWhichTheLastTaskEnds() {
        PromiseScopes x = oneScope(ALL, -1);
        x.fork(0, 1, CONSTANT, 5);
        x.fork(0, 3, CONSTANT, 6);
        x.then(0, 0, ADD, 1, false);
        x.joinScope(0);
        x.tick(2);
        state(x, 0, JOINING, NOT_STOPPED);
        CHECKS.stage(x, 1, PENDING, 0);
        x.tick(1);
        state(x, 0, CLOSED, NOT_STOPPED);
        CHECKS.stage(x, 1, VALUE, 12);
    }

    @Says("of every tick and of cancelScope()")
    private static void closedByCancelScope() {
        PromiseScopes x = oneScope(ALL, -1);
        x.open(-1, ALL, -1);
        x.fork(0, 50, CONSTANT, 5);
        x.then(0, 1, ADD, 33, false);
        x.joinScope(0);
        CHECKS.yes("cancelScope of the other", x.cancelScope(1));
        state(x, 0, JOINING, NOT_STOPPED);
        CHECKS.yes("cancelScope", x.cancelScope(0));
        state(x, 0, CLOSED, STOPPED);
        CHECKS.stage(x, 2, VALUE, 33);
        CHECKS.equal("count(4)", x.count(4), 0);
    }

    @Says("and no scope below it that is not closed, is CLOSED")
    private static void aChainClosesAtOnce() {
        PromiseScopes x = chainOf12();
        x.fork(11, 1, CONSTANT, 1);
        for (int p = 11; p >= 0; p--) {
            CHECKS.yes("joinScope(" + p + ")", x.joinScope(p));
            state(x, p, JOINING, NOT_STOPPED);
        }
        x.several(0b111111111111, 8);
        x.tick(1);
        for (int p = 0; p < 12; p++) {
            state(x, p, CLOSED, NOT_STOPPED);
        }
        CHECKS.stage(x, 12, VALUE, 1);
    }

    @Says("the scopes with the greatest numbers first.")
    private static void theGreatestNumbersCloseFirst() {
        PromiseScopes x = new PromiseScopes();
        for (int p = 0; p < 12; p++) {
            x.open(-1, ALL, -1);
            x.fork(p, 1, CONSTANT, 100 + p);
            x.joinScope(p);
        }
        x.several(0b111111111111, 8);
        x.several(0b000000000011, 8);
        x.tick(1);
        CHECKS.stage(x, 12, VALUE, 111);
        CHECKS.stage(x, 13, VALUE, 101);
    }

    @Says("Its result gets an outcome then, if it is PENDING (a failure not wrapped")
    private static void aResultThatHasAnOutcomeKeepsIt() {
        PromiseScopes x = new PromiseScopes();
        for (int p = 0; p < 3; p++) {
            x.open(-1, ALL, -1);
            x.fork(p, 1, CONSTANT, 5);
        }
        x.complete(0, -1);
        x.fail(1, 9);
        x.cancel(2);
        for (int p = 0; p < 3; p++) {
            x.joinScope(p);
        }
        x.tick(1);
        result(x, 0, VALUE, -1);
        result(x, 1, FAILURE, 9);
        result(x, 2, FAILURE, 0);
        for (int p = 0; p < 3; p++) {
            state(x, p, CLOSED, NOT_STOPPED);
        }
    }

    @Says("(a failure not wrapped; the LINE is worked off at the end of each tick and call, "
            + "when all scopes that can are closed)")
    private static void theLineWaitsForAllThatClose() {
        PromiseScopes x = oneScope(ALL, -1);
        x.open(-1, ALL, -1);
        x.fork(0, 1, THROW, 2);
        x.fork(1, 1, CONSTANT, 20);
        x.then(1, 0, ADD, 1, false);
        x.several(0b101, 8);
        x.joinScope(0);
        x.joinScope(1);
        x.tick(1);
        CHECKS.stage(x, 0, FAILURE, 3);
        CHECKS.stage(x, 3, WRAPPED, 3);
    }

    @Says("the LINE is worked off at the end of each tick")
    private static void theLineIsWorkedOffBetweenTwoTicks() {
        PromiseScopes x = oneScope(ALL, -1);
        x.open(-1, ALL, -1);
        x.fork(0, 2, CONSTANT, 10);
        x.fork(1, 1, CONSTANT, 20);
        x.then(1, 0, ADD, 1, false);
        x.several(0b101, 8);
        x.joinScope(0);
        x.joinScope(1);
        x.tick(2);
        CHECKS.stage(x, 3, VALUE, 21);
    }

    // ---- terms: results

    @Says("LATE: the failure 7.")
    private static void lateGoesBeforeEachPolicy() {
        for (int policy = ALL; policy <= FIRST; policy++) {
            for (int function : new int[] {CONSTANT, THROW}) {
                PromiseScopes x = oneScope(policy, 2);
                x.fork(0, 1, function, 3);
                x.tick(2);
                x.joinScope(0);
                result(x, 0, FAILURE, 7);
            }
            PromiseScopes empty = oneScope(policy, 1);
            empty.tick(1);
            empty.joinScope(0);
            result(empty, 0, FAILURE, 7);
        }
    }

    @Says("with ALL: the SUM of the values of DONE tasks if none FAILED and none is CANCELLED; FAIL FAST: the same")
    private static void sumsOfTasksWrapAround() {
        for (int policy = ALL; policy <= FAIL_FAST; policy++) {
            PromiseScopes x = oneScope(policy, -1);
            for (int t = 0; t < 30; t++) {
                x.fork(0, 1 + t, CONSTANT, MAX);
            }
            x.joinScope(0);
            x.tick(29);
            result(x, 0, PENDING, 0);
            x.tick(1);
            result(x, 0, VALUE, MAX * 30);
        }
    }

    @Says("if none FAILED and none is CANCELLED")
    private static void oneThatFailedOrWasCancelledIsEnough() {
        PromiseScopes x = oneScope(ALL, -1);
        x.open(-1, ALL, -1);
        x.fork(0, 1, CONSTANT, 5);
        x.fork(1, 1, CONSTANT, 5);
        x.fork(0, 1, THROW, 7);
        x.tick(1);
        x.cancelScope(1);
        CHECKS.equal("fork in a stopped scope", x.fork(1, 1, CONSTANT, 5), 3);
        x.joinScope(0);
        x.joinScope(1);
        result(x, 0, FAILURE, 8);
        result(x, 1, FAILURE, 0);
    }

    @Says("FIRST: the value of the task that was DONE first.")
    private static void theFirstOfFirst() {
        PromiseScopes x = oneScope(FIRST, -1);
        x.fork(0, 3, CONSTANT, 1);
        x.fork(0, 1, THROW, 2);
        x.fork(0, 2, CONSTANT, -1);
        x.joinScope(0);
        CHECKS.equal("tick(60)", x.tick(60), 2);
        result(x, 0, VALUE, -1);
        task(x, 0, CANCELLED, 2, 0);
    }

    @Says("Otherwise the failure of the task that FAILED first, or 0 if there is none.")
    private static void theFirstFailure() {
        for (int policy = ALL; policy <= FIRST; policy++) {
            PromiseScopes x = oneScope(policy, -1);
            x.fork(0, 3, THROW, 0);
            x.fork(0, 2, THROW, 7);
            x.joinScope(0);
            x.tick(3);
            result(x, 0, FAILURE, 8);

            PromiseScopes cancelled = oneScope(policy, -1);
            cancelled.fork(0, 50, THROW, 0);
            cancelled.joinScope(0);
            cancelled.cancelScope(0);
            result(cancelled, 0, FAILURE, 0);
        }
    }

    @Says("Of those that ended in the same tick the one with the least number is the first.")
    private static void theLeastNumberOfOneTick() {
        PromiseScopes x = oneScope(ALL, -1);
        x.fork(0, 2, THROW, 5);
        x.fork(0, 2, THROW, 4);
        x.fork(0, 2, THROW, 3);
        x.joinScope(0);
        x.tick(2);
        result(x, 0, FAILURE, 6);

        PromiseScopes y = oneScope(FIRST, -1);
        y.fork(0, 2, THROW, 5);
        y.fork(0, 2, CONSTANT, 40);
        y.fork(0, 2, CONSTANT, 30);
        y.joinScope(0);
        y.tick(2);
        result(y, 0, VALUE, 40);
    }

    @Says("With no tasks ALL and FAIL FAST give 0, FIRST the failure 0.")
    private static void resultsWithNoTasks() {
        for (int policy = ALL; policy <= FIRST; policy++) {
            PromiseScopes x = oneScope(policy, -1);
            x.open(0, ALL, -1);
            x.fork(1, 1, CONSTANT, 5);
            x.joinScope(1);
            x.joinScope(0);
            x.tick(1);
            result(x, 0, policy == FIRST ? FAILURE : VALUE, 0);
        }
    }

    // ---- promises 13 to 21

    @Says("IllegalArgumentException if there is no such parent, it is not OPEN, or policy is not 0 .. 2")
    private static void eachPolicyCanBeOpened() {
        PromiseScopes x = new PromiseScopes();
        for (int policy = ALL; policy <= FIRST; policy++) {
            CHECKS.equal("open", x.open(policy - 1, policy, MIN), policy);
        }
    }

    @Says("IllegalStateException if there are 12 scopes or 48 stages.")
    private static void openWith11ScopesAnd47Stages() {
        PromiseScopes x = new PromiseScopes();
        for (int p = 0; p < 11; p++) {
            x.open(-1, ALL, -1);
        }
        for (int s = 11; s < 47; s++) {
            x.source();
        }
        CHECKS.equal("open", x.open(10, ALL, -1), 11);
        CHECKS.equal("its result", x.scope(11, 1), 47);
    }

    @Says("An OPEN scope binds a key to v from now on")
    private static void bindInAStoppedScope() {
        PromiseScopes x = oneScope(ALL, 1);
        x.tick(1);
        state(x, 0, OPEN, STOPPED_AND_LATE);
        CHECKS.yes("bind", x.bind(0, 0, 9));
        CHECKS.equal("bound", x.bound(0, 0), 9);
        CHECKS.yes("bind again", x.bind(0, 0, 0));
        CHECKS.equal("bound", x.bound(0, 0), 0);
    }

    @Says("It is CANCELLED at once if the scope was stopped.")
    private static void forkInAStoppedScope() {
        PromiseScopes x = oneScope(ALL, 1);
        x.open(-1, FIRST, -1);
        x.open(-1, ALL, -1);
        x.open(2, ALL, -1);
        x.fork(1, 1, CONSTANT, 0);
        x.tick(1);
        x.cancelScope(2);
        for (int p = 0; p < 4; p++) {
            CHECKS.equal("fork", x.fork(p, 1, CONSTANT, 3), 1 + p);
            task(x, 1 + p, CANCELLED, 0, 0);
            CHECKS.equal("scope(" + p + ", 3)", x.scope(p, 3), 0);
        }
        CHECKS.equal("tick(1)", x.tick(1), 0);
        task(x, 1, CANCELLED, 0, 0);
    }

    @Says("An OPEN scope is JOINING: true")
    private static void joinScopeAboveJoiningAndClosedOnes() {
        PromiseScopes x = oneScope(ALL, -1);
        x.open(0, ALL, -1);
        x.open(0, ALL, -1);
        x.fork(1, 1, CONSTANT, 3);
        x.joinScope(1);
        x.joinScope(2);
        CHECKS.yes("joinScope(0)", x.joinScope(0));
        state(x, 0, JOINING, NOT_STOPPED);
        state(x, 1, JOINING, NOT_STOPPED);
        state(x, 2, CLOSED, NOT_STOPPED);
    }

    @Says("A scope that is not closed is STOPPED: true")
    private static void cancelScopeTwice() {
        PromiseScopes x = oneScope(ALL, -1);
        x.open(0, ALL, -1);
        x.fork(1, 2, CONSTANT, 1);
        x.joinScope(1);
        CHECKS.yes("cancelScope(0)", x.cancelScope(0));
        state(x, 0, OPEN, STOPPED);
        state(x, 1, CLOSED, STOPPED);
        CHECKS.yes("cancelScope(0) again", x.cancelScope(0));
        x.joinScope(0);
        CHECKS.no("cancelScope(0) when closed", x.cancelScope(0));
    }

    @Says("n ticks, 0 .. 60: how many tasks ended")
    private static void ticksOfNoneAndOfSixty() {
        PromiseScopes x = oneScope(ALL, -1);
        x.fork(0, 1, CONSTANT, 1);
        x.fork(0, 50, THROW, 1);
        CHECKS.equal("tick(0)", x.tick(0), 0);
        task(x, 0, RUNNING, 0, 0);
        CHECKS.equal("count(4)", x.count(4), 0);
        CHECKS.equal("tick(60)", x.tick(60), 2);
        CHECKS.equal("count(4)", x.count(4), 60);
        CHECKS.equal("tick(59)", x.tick(59), 0);
        CHECKS.equal("count(4)", x.count(4), 119);
    }

    @Says("how many tasks ended")
    private static void cancelledTasksDidNotEnd() {
        PromiseScopes x = oneScope(FIRST, -1);
        x.open(-1, ALL, 1);
        x.fork(0, 1, THROW, 1);
        x.fork(0, 1, CONSTANT, 1);
        x.fork(0, 1, CONSTANT, 1);
        x.fork(1, 1, CONSTANT, 1);
        CHECKS.equal("tick(1)", x.tick(1), 2);
    }

    @Says("2: its effective deadline (NONE if none)")
    private static void noEffectiveDeadline() {
        PromiseScopes x = oneScope(ALL, -5);
        x.open(0, ALL, MIN);
        x.open(0, ALL, 0);
        CHECKS.equal("scope(0, 2)", x.scope(0, 2), -1);
        CHECKS.equal("scope(1, 2)", x.scope(1, 2), -1);
        CHECKS.equal("scope(2, 2)", x.scope(2, 2), 0);
    }

    @Says("3: how many of its tasks are running")
    private static void runningTasksOfEachScope() {
        PromiseScopes x = oneScope(ALL, -1);
        x.open(0, ALL, -1);
        CHECKS.equal("scope(0, 3)", x.scope(0, 3), 0);
        for (int t = 0; t < 30; t++) {
            x.fork(t == 29 ? 0 : 1, 1 + t, CONSTANT, 1);
        }
        CHECKS.equal("scope(0, 3)", x.scope(0, 3), 1);
        CHECKS.equal("scope(1, 3)", x.scope(1, 3), 29);
        x.tick(28);
        CHECKS.equal("scope(1, 3)", x.scope(1, 3), 1);
        x.tick(2);
        CHECKS.equal("scope(0, 3)", x.scope(0, 3), 0);
        CHECKS.equal("scope(1, 3)", x.scope(1, 3), 0);
    }

    @Says("5: how many tasks FAILED.")
    private static void failedTasksOfEachScope() {
        PromiseScopes x = oneScope(ALL, -1);
        x.open(0, FAIL_FAST, -1);
        for (int t = 0; t < 30; t++) {
            x.fork(t < 2 ? 1 : 0, 1, THROW, t);
        }
        CHECKS.equal("scope(0, 5)", x.scope(0, 5), 0);
        x.tick(1);
        CHECKS.equal("scope(0, 5)", x.scope(0, 5), 28);
        CHECKS.equal("scope(1, 5)", x.scope(1, 5), 1);
    }

    @Says("The value of a key in a scope; 0 if it has none.")
    private static void boundToNone() {
        PromiseScopes x = oneScope(ALL, -1);
        x.open(0, ALL, -1);
        x.bind(1, 0, 5);
        CHECKS.equal("bound(0, 0)", x.bound(0, 0), 0);
        CHECKS.equal("bound(1, 3)", x.bound(1, 3), 0);
        x.joinScope(1);
        CHECKS.equal("bound in a closed scope", x.bound(1, 0), 5);
    }

    @Says("3: its value or failure (0 for others).")
    private static void contentsOfTasks() {
        PromiseScopes x = oneScope(ALL, -1);
        x.bind(0, 0, 5);
        x.fork(0, 2, CONSTANT, -1);
        x.fork(0, 2, DIVIDE, 0);
        x.fork(0, 3, CONSTANT, 6);
        x.tick(1);
        for (int t = 0; t < 3; t++) {
            task(x, t, RUNNING, 1, 0);
        }
        x.tick(1);
        x.cancelScope(0);
        task(x, 0, DONE, 2, -1);
        task(x, 1, FAILED, 2, 9);
        task(x, 2, CANCELLED, 2, 0);
    }
}
