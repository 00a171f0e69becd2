/** Promises 12 to 21: scopes, tasks and the time. */
public final class ScopeTest {
    private static final int MAX = Integer.MAX_VALUE;
    private static final int MIN = Integer.MIN_VALUE;

    private static final int ALL = 0;
    private static final int FAIL_FAST = 1;
    private static final int FIRST = 2;

    private static final int OPEN = 0;
    private static final int JOINING = 1;
    private static final int CLOSED = 2;

    private static final int RUNNING = 0;
    private static final int DONE = 1;
    private static final int FAILED = 2;
    private static final int CANCELLED = 3;

    private static final int PENDING = 0;
    private static final int VALUE = 1;
    private static final int FAILURE = 2;
    private static final int WRAPPED = 3;

    private static final int ADD = 0;
    private static final int REFUSE_ONE = 2;
    private static final int THROW = 3;
    private static final int CONSTANT = 4;
    private static final int DIVIDE = 5;

    private static final Checks CHECKS = new Checks();

    private ScopeTest() {
    }

    public static void main(String[] args) {
        open();
        openRefusals();
        openWithFewStages();
        effectiveDeadline();
        bind();
        bindRefusals();
        bindOfAParentLater();
        fork();
        forkTakesTheBindingOfThen();
        forkRefusals();
        forkInAStoppedScope();
        forkInANewScopeBelowAStoppedOne();
        joinScope();
        joinScopeClosesAtOnce();
        joinScopeWaitsForThoseBelow();
        cancelScope();
        cancelScopeClosesWhatJoins();
        cancelledWithoutTasks();
        tickCounts();
        tickGoesInTheOrderOfNumbers();
        tickNumbers();
        failFast();
        failFastStopsThoseBelow();
        stopLeavesClosedScopesAlone();
        stopLeavesParentsAlone();
        firstPolicy();
        firstPolicyOfOneTick();
        firstPolicyWithFailuresAlone();
        allPolicy();
        allPolicyWithFailures();
        allPolicyWithoutTasks();
        deadlineStopsBeforeTasksWork();
        deadlineOfTheParent();
        deadlineOfTheFirstTick();
        lateGoesBeforeAllElse();
        lateBehindCancel();
        resultSettledByHand();
        resultsFeedStages();
        resultsSettleBeforeTheLine();
        lineIsWorkedOffAtEachTick();
        greatestNumbersCloseFirst();
        scopeQuestions();
        boundQuestions();
        taskQuestions();
        CHECKS.end();
    }

    private static void task(PromiseScopes x, int task, int state, int worked, int content) {
        CHECKS.equal("task(" + task + ", 0)", x.task(task, 0), state);
        CHECKS.equal("task(" + task + ", 2)", x.task(task, 2), worked);
        CHECKS.equal("task(" + task + ", 3)", x.task(task, 3), content);
    }

    private static void scope(PromiseScopes x, int scope, int state, int running, int stopped, int failed) {
        CHECKS.equal("scope(" + scope + ", 0)", x.scope(scope, 0), state);
        CHECKS.equal("scope(" + scope + ", 3)", x.scope(scope, 3), running);
        CHECKS.equal("scope(" + scope + ", 4)", x.scope(scope, 4), stopped);
        CHECKS.equal("scope(" + scope + ", 5)", x.scope(scope, 5), failed);
    }

    private static void open() {
        PromiseScopes x = new PromiseScopes();
        x.source();
        CHECKS.equal("open", x.open(-1, ALL, -1), 0);
        x.source();
        CHECKS.equal("open", x.open(0, FAIL_FAST, 4), 1);
        CHECKS.equal("open", x.open(-1, FIRST, 0), 2);
        CHECKS.equal("result", x.scope(0, 1), 1);
        CHECKS.equal("result", x.scope(1, 1), 3);
        CHECKS.equal("result", x.scope(2, 1), 4);
        CHECKS.equal("count(0)", x.count(0), 5);
        CHECKS.equal("count(2)", x.count(2), 3);
        for (int i = 0; i < 3; i++) {
            scope(x, i, OPEN, 0, 0, 0);
            CHECKS.stage(x, x.scope(i, 1), PENDING, 0);
            CHECKS.equal("kind of a result", x.stage(x.scope(i, 1), 2), 9);
        }
    }

    private static void openRefusals() {
        Class<IllegalArgumentException> due = IllegalArgumentException.class;
        for (int parent : new int[] {-2, 2, MAX, MIN}) {
            PromiseScopes y = openAndJoining();
            CHECKS.refusesIdly(y, "open in " + parent, due, () -> y.open(parent, ALL, -1));
        }
        for (int policy : new int[] {-1, 3, MAX, MIN}) {
            PromiseScopes y = openAndJoining();
            CHECKS.refusesIdly(y, "open with policy " + policy, due, () -> y.open(-1, policy, -1));
        }
        PromiseScopes x = openAndJoining();
        CHECKS.refusesIdly(x, "open in a joining scope", due, () -> x.open(1, ALL, -1));
        x.tick(2);
        CHECKS.refusesIdly(x, "open in a closed scope", due, () -> x.open(1, ALL, -1));
        for (int i = 2; i < 12; i++) {
            CHECKS.equal("open", x.open(i % 2 == 0 ? 0 : -1, ALL, -1), i);
        }
        CHECKS.refuses("open of 13", IllegalStateException.class, () -> x.open(-1, ALL, -1));
        CHECKS.refuses("open of 13", IllegalStateException.class, () -> x.open(0, ALL, -1));
        CHECKS.refuses("wrong open of 13", due, () -> x.open(0, 3, -1));
        CHECKS.refuses("wrong open of 13", due, () -> x.open(1, 0, -1));
        CHECKS.equal("count(0)", x.count(0), 12);
        CHECKS.equal("count(2)", x.count(2), 12);
        CHECKS.equal("scope(11, 0)", x.scope(11, 0), OPEN);
        CHECKS.equal("scope(12, 0)", x.scope(12, 0), -1);
        CHECKS.no("joinScope(12)", x.joinScope(12));
    }

    /** Scope 0 is open, scope 1 joins, and has a task that ends in two ticks. */
    private static PromiseScopes openAndJoining() {
        PromiseScopes x = new PromiseScopes();
        x.open(-1, ALL, -1);
        x.open(-1, ALL, -1);
        x.fork(1, 2, CONSTANT, 0);
        x.joinScope(1);
        return x;
    }

    private static void openWithFewStages() {
        PromiseScopes x = new PromiseScopes();
        for (int i = 0; i < 47; i++) {
            x.source();
        }
        CHECKS.equal("open", x.open(-1, ALL, -1), 0);
        CHECKS.equal("result", x.scope(0, 1), 47);
        CHECKS.refuses("open with 48 stages", IllegalStateException.class, () -> x.open(0, ALL, -1));
        CHECKS.refuses("wrong open with 48 stages", IllegalArgumentException.class, () -> x.open(1, ALL, -1));
        CHECKS.equal("count(2)", x.count(2), 1);
        CHECKS.equal("count(0)", x.count(0), 48);
    }

    private static void effectiveDeadline() {
        PromiseScopes x = new PromiseScopes();
        int[] parents = {-1, 0, 1, 1, 0, 3, -1, 6};
        int[] deadlines = {-1, 20, -1, 7, MIN, 9, 0, MAX};
        int[] due = {-1, 20, 20, 7, -1, 7, 0, 0};
        for (int i = 0; i < due.length; i++) {
            x.open(parents[i], ALL, deadlines[i]);
            CHECKS.equal("scope(" + i + ", 2)", x.scope(i, 2), due[i]);
        }
        x.open(-1, ALL, MAX);
        CHECKS.equal("scope(8, 2)", x.scope(8, 2), MAX);
        x.open(8, ALL, 30);
        CHECKS.equal("scope(9, 2)", x.scope(9, 2), 30);
        x.open(8, ALL, 0);
        CHECKS.equal("scope(10, 2)", x.scope(10, 2), 0);
    }

    private static void bind() {
        PromiseScopes x = new PromiseScopes();
        x.open(-1, ALL, -1);
        for (int key = 0; key <= 3; key++) {
            CHECKS.equal("bound", x.bound(0, key), 0);
            CHECKS.yes("bind", x.bind(0, key, 10 * key - 5));
            CHECKS.equal("bound", x.bound(0, key), 10 * key - 5);
        }
        CHECKS.yes("bind", x.bind(0, 1, MIN));
        CHECKS.equal("bound", x.bound(0, 1), MIN);
        CHECKS.equal("bound", x.bound(0, 0), -5);
        x.fork(0, 1, ADD, 0);
        CHECKS.yes("cancelScope", x.cancelScope(0));
        CHECKS.yes("bind in a stopped scope that is open", x.bind(0, 2, 8));
        CHECKS.equal("bound", x.bound(0, 2), 8);
    }

    private static void bindRefusals() {
        for (int key : new int[] {-1, 4, MAX, MIN}) {
            PromiseScopes x = openAndJoining();
            CHECKS.idle(x, "bind of key " + key, 0, () -> x.bind(0, key, 1) ? 1 : 0);
        }
        for (int scope : new int[] {-1, 2, MAX, MIN}) {
            PromiseScopes x = openAndJoining();
            CHECKS.idle(x, "bind in " + scope, 0, () -> x.bind(scope, 0, 1) ? 1 : 0);
        }
        PromiseScopes x = openAndJoining();
        CHECKS.idle(x, "bind in a joining scope", 0, () -> x.bind(1, 0, 1) ? 1 : 0);
        x.tick(2);
        CHECKS.idle(x, "bind in a closed scope", 0, () -> x.bind(1, 0, 1) ? 1 : 0);
    }

    private static void bindOfAParentLater() {
        PromiseScopes x = new PromiseScopes();
        x.open(-1, ALL, -1);
        x.open(0, ALL, -1);
        x.open(1, ALL, -1);
        x.bind(1, 2, 0);
        x.bind(0, 2, 6);
        x.bind(0, 3, 7);
        CHECKS.equal("bound to 0 is bound", x.bound(2, 2), 0);
        CHECKS.equal("bound(2, 3)", x.bound(2, 3), 7);
        x.joinScope(2);
        x.bind(0, 3, 8);
        CHECKS.equal("bound of a closed scope", x.bound(2, 3), 8);
        CHECKS.equal("bound(0, 2)", x.bound(0, 2), 6);
        x.bind(1, 1, 4);
        CHECKS.equal("bound(0, 1)", x.bound(0, 1), 0);
    }

    private static void fork() {
        PromiseScopes x = new PromiseScopes();
        x.open(-1, ALL, -1);
        x.open(0, ALL, -1);
        for (int t = 0; t < 30; t++) {
            CHECKS.equal("fork", x.fork(t % 2, 1 + t, ADD, 0), t);
            CHECKS.equal("its scope", x.task(t, 1), t % 2);
            task(x, t, RUNNING, 0, 0);
        }
        CHECKS.refuses("fork of 31", IllegalStateException.class, () -> x.fork(0, 1, 0, 0));
        CHECKS.refuses("wrong fork of 31", IllegalArgumentException.class, () -> x.fork(0, 0, 0, 0));
        CHECKS.refuses("wrong fork of 31", IllegalArgumentException.class, () -> x.fork(2, 1, 0, 0));
        CHECKS.equal("count(3)", x.count(3), 30);
        CHECKS.equal("task(30, 0)", x.task(30, 0), -1);
        CHECKS.equal("scope(0, 3)", x.scope(0, 3), 15);
        CHECKS.equal("count(0)", x.count(0), 2);
    }

    private static void forkTakesTheBindingOfThen() {
        PromiseScopes x = new PromiseScopes();
        x.open(-1, ALL, -1);
        x.open(0, ALL, -1);
        x.fork(1, 1, ADD, 5);
        x.bind(0, 0, 10);
        x.fork(1, 1, ADD, 5);
        x.bind(1, 0, 20);
        x.bind(1, 1, 900);
        x.fork(1, 1, 1, 3);
        x.fork(0, 1, REFUSE_ONE, 10);
        x.fork(0, 1, REFUSE_ONE, 11);
        x.fork(1, 1, DIVIDE, 3);
        x.fork(1, 1, DIVIDE, 0);
        x.fork(1, 1, CONSTANT, -1);
        x.fork(1, 1, THROW, -1);
        x.bind(0, 0, 77);
        x.bind(1, 0, 78);
        CHECKS.equal("tick(1)", x.tick(1), 9);
        task(x, 0, DONE, 1, 5);
        task(x, 1, DONE, 1, 15);
        task(x, 2, DONE, 1, 60);
        task(x, 3, FAILED, 1, 3);
        task(x, 4, DONE, 1, 10);
        task(x, 5, DONE, 1, 6);
        task(x, 6, FAILED, 1, 9);
        task(x, 7, DONE, 1, -1);
        task(x, 8, FAILED, 1, 8);
        CHECKS.equal("scope(1, 5)", x.scope(1, 5), 2);
        CHECKS.equal("scope(0, 5)", x.scope(0, 5), 1);
    }

    private static void forkRefusals() {
        Class<IllegalArgumentException> due = IllegalArgumentException.class;
        PromiseScopes x = openAndJoining();
        CHECKS.refusesIdly(x, "fork in a joining scope", due, () -> x.fork(1, 1, 0, 0));
        x.tick(2);
        CHECKS.refusesIdly(x, "fork in a closed scope", due, () -> x.fork(1, 1, 0, 0));
        for (int scope : new int[] {-1, 2, MAX, MIN}) {
            PromiseScopes y = openAndJoining();
            CHECKS.refusesIdly(y, "fork in " + scope, due, () -> y.fork(scope, 1, 0, 0));
        }
        for (int cost : new int[] {0, -1, 51, MAX, MIN}) {
            PromiseScopes y = openAndJoining();
            CHECKS.refusesIdly(y, "fork with cost " + cost, due, () -> y.fork(0, cost, 0, 0));
        }
        for (int function : new int[] {-1, 6, MAX, MIN}) {
            PromiseScopes y = openAndJoining();
            CHECKS.refusesIdly(y, "fork with function " + function, due, () -> y.fork(0, 1, function, 0));
        }
        CHECKS.equal("fork", x.fork(0, 50, 5, 0), 1);
        CHECKS.equal("tick(49)", x.tick(49), 0);
        task(x, 1, RUNNING, 49, 0);
        CHECKS.equal("tick(1)", x.tick(1), 1);
        task(x, 1, FAILED, 50, 9);
    }

    private static void forkInAStoppedScope() {
        PromiseScopes x = new PromiseScopes();
        x.open(-1, FIRST, -1);
        x.fork(0, 1, CONSTANT, 4);
        x.tick(1);
        scope(x, 0, OPEN, 0, 1, 0);
        CHECKS.equal("fork", x.fork(0, 1, CONSTANT, 5), 1);
        task(x, 1, CANCELLED, 0, 0);
        CHECKS.equal("tick(3)", x.tick(3), 0);
        task(x, 1, CANCELLED, 0, 0);
        x.joinScope(0);
        CHECKS.stage(x, 0, VALUE, 4);
    }

    private static void forkInANewScopeBelowAStoppedOne() {
        PromiseScopes x = new PromiseScopes();
        x.open(-1, ALL, -1);
        x.cancelScope(0);
        CHECKS.equal("open in a stopped scope that is open", x.open(0, ALL, -1), 1);
        scope(x, 1, OPEN, 0, 0, 0);
        x.fork(1, 1, CONSTANT, 5);
        task(x, 0, RUNNING, 0, 0);
        CHECKS.yes("cancelScope again", x.cancelScope(0));
        task(x, 0, CANCELLED, 0, 0);
        scope(x, 1, OPEN, 0, 1, 0);
    }

    private static void joinScope() {
        PromiseScopes x = new PromiseScopes();
        x.open(-1, ALL, -1);
        x.open(0, ALL, -1);
        x.open(1, ALL, -1);
        x.fork(2, 2, CONSTANT, 1);
        x.fork(1, 1, CONSTANT, 1);
        CHECKS.idle(x, "joinScope(0)", 0, () -> x.joinScope(0) ? 1 : 0);
        CHECKS.idle(x, "joinScope(1)", 0, () -> x.joinScope(1) ? 1 : 0);
        CHECKS.yes("joinScope(2)", x.joinScope(2));
        scope(x, 2, JOINING, 1, 0, 0);
        CHECKS.no("joinScope(2) again", x.joinScope(2));
        CHECKS.no("joinScope(0) over an open one", x.joinScope(0));
        scope(x, 2, JOINING, 1, 0, 0);
        scope(x, 0, OPEN, 0, 0, 0);
        CHECKS.yes("joinScope(1) over a joining one", x.joinScope(1));
        CHECKS.yes("joinScope(0) over joining ones", x.joinScope(0));
        x.tick(2);
        scope(x, 2, CLOSED, 0, 0, 0);
        CHECKS.no("joinScope(2) of a closed one", x.joinScope(2));
        scope(x, 2, CLOSED, 0, 0, 0);
        for (int scope : new int[] {-1, 2, MAX, MIN}) {
            PromiseScopes y = openAndJoining();
            CHECKS.idle(y, "joinScope(" + scope + ")", 0, () -> y.joinScope(scope) ? 1 : 0);
        }
    }

    private static void joinScopeClosesAtOnce() {
        PromiseScopes x = new PromiseScopes();
        x.open(-1, ALL, -1);
        x.open(0, ALL, -1);
        x.open(-1, ALL, -1);
        x.fork(1, 1, CONSTANT, 3);
        x.fork(2, 1, CONSTANT, 30);
        x.then(1, 0, ADD, 1, false);
        x.tick(1);
        CHECKS.stage(x, 1, PENDING, 0);
        CHECKS.yes("joinScope(1)", x.joinScope(1));
        scope(x, 1, CLOSED, 0, 0, 0);
        CHECKS.stage(x, 1, VALUE, 3);
        CHECKS.stage(x, 3, VALUE, 4);
        scope(x, 0, OPEN, 0, 0, 0);
        scope(x, 2, OPEN, 0, 0, 0);
        CHECKS.yes("joinScope(0)", x.joinScope(0));
        CHECKS.stage(x, 0, VALUE, 0);
        CHECKS.yes("joinScope(2)", x.joinScope(2));
        CHECKS.stage(x, 2, VALUE, 30);
    }

    private static void joinScopeWaitsForThoseBelow() {
        PromiseScopes x = new PromiseScopes();
        x.open(-1, ALL, -1);
        x.open(0, ALL, -1);
        x.open(1, ALL, -1);
        x.fork(0, 1, CONSTANT, 1);
        x.fork(1, 1, CONSTANT, 10);
        x.fork(2, 3, CONSTANT, 100);
        x.joinScope(2);
        x.joinScope(1);
        x.joinScope(0);
        CHECKS.equal("tick(2)", x.tick(2), 2);
        scope(x, 0, JOINING, 0, 0, 0);
        scope(x, 1, JOINING, 0, 0, 0);
        scope(x, 2, JOINING, 1, 0, 0);
        CHECKS.stage(x, 0, PENDING, 0);
        CHECKS.equal("tick(1)", x.tick(1), 1);
        for (int i = 0; i < 3; i++) {
            scope(x, i, CLOSED, 0, 0, 0);
        }
        CHECKS.stage(x, 0, VALUE, 1);
        CHECKS.stage(x, 1, VALUE, 10);
        CHECKS.stage(x, 2, VALUE, 100);
    }

    private static void cancelScope() {
        PromiseScopes x = new PromiseScopes();
        x.open(-1, ALL, -1);
        x.open(0, ALL, -1);
        x.open(1, ALL, -1);
        x.open(0, ALL, -1);
        for (int t = 0; t < 4; t++) {
            x.fork(t, 5, CONSTANT, t);
        }
        x.fork(1, 1, CONSTANT, 4);
        x.tick(1);
        CHECKS.yes("cancelScope(1)", x.cancelScope(1));
        task(x, 0, RUNNING, 1, 0);
        task(x, 1, CANCELLED, 1, 0);
        task(x, 2, CANCELLED, 1, 0);
        task(x, 3, RUNNING, 1, 0);
        task(x, 4, DONE, 1, 4);
        scope(x, 0, OPEN, 1, 0, 0);
        scope(x, 1, OPEN, 0, 1, 0);
        scope(x, 2, OPEN, 0, 1, 0);
        scope(x, 3, OPEN, 1, 0, 0);
        CHECKS.yes("cancelScope(1) again", x.cancelScope(1));
        for (int scope : new int[] {-1, 2, MAX, MIN}) {
            PromiseScopes y = openAndJoining();
            CHECKS.idle(y, "cancelScope(" + scope + ")", 0, () -> y.cancelScope(scope) ? 1 : 0);
        }
        x.joinScope(2);
        scope(x, 2, CLOSED, 0, 1, 0);
        CHECKS.stage(x, 2, FAILURE, 0);
        CHECKS.idle(x, "cancelScope of a closed one", 0, () -> x.cancelScope(2) ? 1 : 0);
    }

    private static void cancelScopeClosesWhatJoins() {
        PromiseScopes x = new PromiseScopes();
        x.open(-1, ALL, -1);
        x.open(0, FIRST, -1);
        x.fork(0, 9, CONSTANT, 1);
        x.fork(1, 9, CONSTANT, 1);
        x.fork(1, 1, THROW, 4);
        x.then(0, 2, ADD, 0, false);
        x.joinScope(1);
        x.joinScope(0);
        x.tick(1);
        CHECKS.yes("cancelScope(0)", x.cancelScope(0));
        scope(x, 0, CLOSED, 0, 1, 0);
        scope(x, 1, CLOSED, 0, 1, 1);
        CHECKS.stage(x, 0, FAILURE, 0);
        CHECKS.stage(x, 1, FAILURE, 5);
        CHECKS.stage(x, 2, VALUE, -1);
        CHECKS.equal("the time", x.count(4), 1);
    }

    private static void cancelledWithoutTasks() {
        for (int policy = ALL; policy <= FIRST; policy++) {
            PromiseScopes x = new PromiseScopes();
            x.open(-1, policy, -1);
            x.cancelScope(0);
            x.joinScope(0);
            CHECKS.stage(x, 0, policy == FIRST ? FAILURE : VALUE, 0);
            scope(x, 0, CLOSED, 0, 1, 0);
        }
    }

    private static void tickCounts() {
        PromiseScopes x = new PromiseScopes();
        x.open(-1, ALL, -1);
        int[] costs = {1, 3, 2, 3, 7};
        for (int cost : costs) {
            x.fork(0, cost, cost == 2 ? THROW : CONSTANT, cost);
        }
        CHECKS.idle(x, "tick(0)", 0, () -> x.tick(0));
        CHECKS.equal("tick(1)", x.tick(1), 1);
        CHECKS.equal("count(4)", x.count(4), 1);
        task(x, 0, DONE, 1, 1);
        task(x, 1, RUNNING, 1, 0);
        CHECKS.equal("tick(2)", x.tick(2), 3);
        CHECKS.equal("count(4)", x.count(4), 3);
        task(x, 1, DONE, 3, 3);
        task(x, 2, FAILED, 2, 3);
        task(x, 3, DONE, 3, 3);
        task(x, 4, RUNNING, 3, 0);
        CHECKS.equal("tick(60)", x.tick(60), 1);
        task(x, 4, DONE, 7, 7);
        CHECKS.equal("count(4)", x.count(4), 63);
        CHECKS.equal("tick(60)", x.tick(60), 0);
        CHECKS.equal("count(4)", x.count(4), 123);
    }

    private static void tickGoesInTheOrderOfNumbers() {
        PromiseScopes x = new PromiseScopes();
        x.open(-1, FIRST, -1);
        x.fork(0, 5, CONSTANT, 1);
        x.fork(0, 2, CONSTANT, 2);
        x.fork(0, 2, CONSTANT, 3);
        x.fork(0, 5, CONSTANT, 4);
        CHECKS.equal("tick(2)", x.tick(2), 1);
        task(x, 0, CANCELLED, 2, 0);
        task(x, 1, DONE, 2, 2);
        task(x, 2, CANCELLED, 1, 0);
        task(x, 3, CANCELLED, 1, 0);
    }

    private static void tickNumbers() {
        PromiseScopes x = new PromiseScopes();
        x.open(-1, ALL, 1);
        x.fork(0, 1, CONSTANT, 1);
        for (int n : new int[] {-1, 61, MAX, MIN}) {
            CHECKS.idle(x, "tick(" + n + ")", -1, () -> x.tick(n));
        }
    }

    private static void failFast() {
        PromiseScopes x = new PromiseScopes();
        x.open(-1, FAIL_FAST, -1);
        x.fork(0, 1, CONSTANT, 1);
        x.fork(0, 3, THROW, 1);
        x.fork(0, 3, THROW, 2);
        x.fork(0, 2, THROW, 3);
        x.joinScope(0);
        CHECKS.equal("tick(1)", x.tick(1), 1);
        scope(x, 0, JOINING, 3, 0, 0);
        CHECKS.equal("tick(1)", x.tick(1), 1);
        scope(x, 0, CLOSED, 0, 1, 1);
        task(x, 1, CANCELLED, 2, 0);
        task(x, 2, CANCELLED, 2, 0);
        task(x, 3, FAILED, 2, 4);
        CHECKS.stage(x, 0, FAILURE, 4);

        PromiseScopes y = new PromiseScopes();
        y.open(-1, FAIL_FAST, -1);
        y.fork(0, 1, CONSTANT, 10);
        y.fork(0, 2, CONSTANT, MAX);
        y.joinScope(0);
        CHECKS.equal("tick(2)", y.tick(2), 2);
        scope(y, 0, CLOSED, 0, 0, 0);
        CHECKS.stage(y, 0, VALUE, MIN + 9);
    }

    private static void failFastStopsThoseBelow() {
        PromiseScopes x = new PromiseScopes();
        x.open(-1, FAIL_FAST, -1);
        x.open(0, ALL, -1);
        x.open(1, ALL, -1);
        x.open(-1, ALL, -1);
        x.fork(2, 9, CONSTANT, 1);
        x.fork(0, 1, THROW, 1);
        x.fork(1, 9, CONSTANT, 1);
        x.fork(3, 9, CONSTANT, 1);
        x.fork(2, 1, CONSTANT, 1);
        CHECKS.equal("tick(1)", x.tick(1), 1);
        task(x, 0, CANCELLED, 1, 0);
        task(x, 2, CANCELLED, 0, 0);
        task(x, 3, RUNNING, 1, 0);
        task(x, 4, CANCELLED, 0, 0);
        scope(x, 0, OPEN, 0, 1, 1);
        scope(x, 1, OPEN, 0, 1, 0);
        scope(x, 2, OPEN, 0, 1, 0);
        scope(x, 3, OPEN, 1, 0, 0);
    }

    private static void stopLeavesClosedScopesAlone() {
        PromiseScopes x = new PromiseScopes();
        x.open(-1, ALL, 5);
        x.open(0, ALL, -1);
        x.fork(1, 1, CONSTANT, 6);
        x.joinScope(1);
        x.tick(1);
        scope(x, 1, CLOSED, 0, 0, 0);
        x.cancelScope(0);
        scope(x, 0, OPEN, 0, 1, 0);
        scope(x, 1, CLOSED, 0, 0, 0);
        x.tick(9);
        scope(x, 0, OPEN, 0, 3, 0);
        scope(x, 1, CLOSED, 0, 0, 0);
        CHECKS.stage(x, 1, VALUE, 6);
    }

    private static void stopLeavesParentsAlone() {
        PromiseScopes x = new PromiseScopes();
        x.open(-1, FAIL_FAST, -1);
        x.open(0, FAIL_FAST, -1);
        x.fork(0, 2, CONSTANT, 1);
        x.fork(1, 1, THROW, 1);
        x.joinScope(1);
        x.joinScope(0);
        x.tick(1);
        scope(x, 0, JOINING, 1, 0, 0);
        scope(x, 1, CLOSED, 0, 1, 1);
        x.tick(1);
        CHECKS.stage(x, 0, VALUE, 1);
        CHECKS.stage(x, 1, FAILURE, 2);
    }

    private static void firstPolicy() {
        PromiseScopes x = new PromiseScopes();
        x.open(-1, FIRST, -1);
        x.open(0, ALL, -1);
        x.fork(0, 9, CONSTANT, 1);
        x.fork(0, 1, THROW, 2);
        x.fork(0, 3, CONSTANT, 3);
        x.fork(1, 9, CONSTANT, 4);
        x.joinScope(1);
        x.joinScope(0);
        CHECKS.equal("tick(2)", x.tick(2), 1);
        scope(x, 0, JOINING, 2, 0, 1);
        CHECKS.equal("tick(1)", x.tick(1), 1);
        scope(x, 0, CLOSED, 0, 1, 1);
        scope(x, 1, CLOSED, 0, 1, 0);
        CHECKS.stage(x, 0, VALUE, 3);
        CHECKS.stage(x, 1, FAILURE, 0);
        task(x, 0, CANCELLED, 3, 0);
        task(x, 3, CANCELLED, 2, 0);
    }

    private static void firstPolicyOfOneTick() {
        PromiseScopes x = new PromiseScopes();
        x.open(-1, FIRST, -1);
        x.fork(0, 1, THROW, 2);
        x.fork(0, 1, CONSTANT, 30);
        x.fork(0, 1, CONSTANT, 40);
        x.joinScope(0);
        CHECKS.equal("tick(1)", x.tick(1), 2);
        CHECKS.stage(x, 0, VALUE, 30);
        task(x, 2, CANCELLED, 0, 0);
    }

    private static void firstPolicyWithFailuresAlone() {
        PromiseScopes x = new PromiseScopes();
        x.open(-1, FIRST, -1);
        x.fork(0, 3, THROW, 1);
        x.fork(0, 2, THROW, 2);
        x.fork(0, 2, THROW, 3);
        x.joinScope(0);
        CHECKS.equal("tick(3)", x.tick(3), 3);
        scope(x, 0, CLOSED, 0, 0, 3);
        CHECKS.stage(x, 0, FAILURE, 3);
        x.open(-1, FIRST, -1);
        x.joinScope(1);
        scope(x, 1, CLOSED, 0, 0, 0);
        CHECKS.stage(x, 1, FAILURE, 0);
    }

    private static void allPolicy() {
        PromiseScopes x = new PromiseScopes();
        x.open(-1, ALL, -1);
        x.fork(0, 2, CONSTANT, 5);
        x.fork(0, 1, CONSTANT, -7);
        x.fork(0, 4, CONSTANT, 30);
        x.joinScope(0);
        CHECKS.equal("tick(3)", x.tick(3), 2);
        scope(x, 0, JOINING, 1, 0, 0);
        CHECKS.stage(x, 0, PENDING, 0);
        CHECKS.equal("tick(1)", x.tick(1), 1);
        scope(x, 0, CLOSED, 0, 0, 0);
        CHECKS.stage(x, 0, VALUE, 28);
    }

    private static void allPolicyWithFailures() {
        PromiseScopes x = new PromiseScopes();
        x.open(-1, ALL, -1);
        x.fork(0, 4, THROW, 0);
        x.fork(0, 2, THROW, 1);
        x.fork(0, 2, THROW, 2);
        x.fork(0, 1, CONSTANT, 1);
        x.fork(0, 3, CONSTANT, 1);
        x.joinScope(0);
        CHECKS.equal("tick(2)", x.tick(2), 3);
        scope(x, 0, JOINING, 2, 0, 2);
        CHECKS.equal("tick(2)", x.tick(2), 2);
        scope(x, 0, CLOSED, 0, 0, 3);
        CHECKS.stage(x, 0, FAILURE, 2);

        PromiseScopes y = new PromiseScopes();
        y.open(-1, ALL, -1);
        y.fork(0, 1, CONSTANT, 8);
        y.fork(0, 2, CONSTANT, 9);
        y.tick(1);
        y.cancelScope(0);
        y.joinScope(0);
        CHECKS.stage(y, 0, FAILURE, 0);
    }

    private static void allPolicyWithoutTasks() {
        PromiseScopes x = new PromiseScopes();
        x.open(-1, ALL, -1);
        x.open(-1, FAIL_FAST, -1);
        x.joinScope(0);
        x.joinScope(1);
        CHECKS.stage(x, 0, VALUE, 0);
        CHECKS.stage(x, 1, VALUE, 0);
    }

    private static void deadlineStopsBeforeTasksWork() {
        PromiseScopes x = new PromiseScopes();
        x.open(-1, ALL, 3);
        x.fork(0, 3, CONSTANT, 1);
        x.fork(0, 2, CONSTANT, 2);
        x.joinScope(0);
        CHECKS.equal("tick(2)", x.tick(2), 1);
        scope(x, 0, JOINING, 1, 0, 0);
        CHECKS.equal("tick(1)", x.tick(1), 0);
        task(x, 0, CANCELLED, 2, 0);
        task(x, 1, DONE, 2, 2);
        scope(x, 0, CLOSED, 0, 3, 0);
        CHECKS.stage(x, 0, FAILURE, 7);
    }

    private static void deadlineOfTheParent() {
        PromiseScopes x = new PromiseScopes();
        x.open(-1, ALL, 2);
        x.open(0, ALL, 9);
        x.open(-1, ALL, 4);
        x.open(2, ALL, 2);
        for (int i = 0; i < 4; i++) {
            x.fork(i, 9, CONSTANT, 1);
        }
        x.tick(2);
        scope(x, 0, OPEN, 0, 3, 0);
        scope(x, 1, OPEN, 0, 3, 0);
        scope(x, 2, OPEN, 1, 0, 0);
        scope(x, 3, OPEN, 0, 3, 0);
        x.open(0, ALL, -1);
        scope(x, 4, OPEN, 0, 0, 0);
        x.fork(4, 1, CONSTANT, 1);
        task(x, 4, RUNNING, 0, 0);
        CHECKS.equal("tick(1)", x.tick(1), 0);
        scope(x, 4, OPEN, 0, 3, 0);
        task(x, 4, CANCELLED, 0, 0);
    }

    private static void deadlineOfTheFirstTick() {
        for (int deadline = 0; deadline <= 1; deadline++) {
            PromiseScopes x = new PromiseScopes();
            x.open(-1, FIRST, deadline);
            scope(x, 0, OPEN, 0, 0, 0);
            x.fork(0, 1, CONSTANT, 1);
            task(x, 0, RUNNING, 0, 0);
            CHECKS.equal("tick(1)", x.tick(1), 0);
            scope(x, 0, OPEN, 0, 3, 0);
            task(x, 0, CANCELLED, 0, 0);
        }
        PromiseScopes y = new PromiseScopes();
        y.open(-1, ALL, 0);
        y.joinScope(0);
        CHECKS.stage(y, 0, VALUE, 0);
        y.tick(2);
        scope(y, 0, CLOSED, 0, 0, 0);
    }

    private static void lateGoesBeforeAllElse() {
        for (int policy = ALL; policy <= FIRST; policy++) {
            PromiseScopes x = new PromiseScopes();
            x.open(-1, policy, 3);
            x.fork(0, 1, policy == FIRST ? CONSTANT : THROW, 1);
            x.tick(3);
            scope(x, 0, OPEN, 0, 3, policy == FIRST ? 0 : 1);
            x.joinScope(0);
            CHECKS.stage(x, 0, FAILURE, 7);
        }
        PromiseScopes y = new PromiseScopes();
        y.open(-1, ALL, 3);
        y.tick(4);
        y.joinScope(0);
        CHECKS.stage(y, 0, FAILURE, 7);
    }

    private static void lateBehindCancel() {
        PromiseScopes x = new PromiseScopes();
        x.open(-1, ALL, 2);
        x.fork(0, 5, CONSTANT, 1);
        x.cancelScope(0);
        scope(x, 0, OPEN, 0, 1, 0);
        x.tick(1);
        scope(x, 0, OPEN, 0, 1, 0);
        x.tick(1);
        scope(x, 0, OPEN, 0, 3, 0);
        x.joinScope(0);
        CHECKS.stage(x, 0, FAILURE, 7);
    }

    private static void resultSettledByHand() {
        PromiseScopes x = new PromiseScopes();
        x.open(-1, ALL, -1);
        x.open(-1, ALL, -1);
        x.fork(0, 1, CONSTANT, 1);
        CHECKS.yes("complete of a result", x.complete(0, 50));
        CHECKS.yes("fail of a result", x.fail(1, 6));
        scope(x, 0, OPEN, 1, 0, 0);
        x.joinScope(0);
        x.joinScope(1);
        CHECKS.equal("tick(1)", x.tick(1), 1);
        scope(x, 0, CLOSED, 0, 0, 0);
        CHECKS.stage(x, 0, VALUE, 50);
        CHECKS.stage(x, 1, FAILURE, 6);
    }

    private static void resultsFeedStages() {
        PromiseScopes x = new PromiseScopes();
        x.open(-1, ALL, -1);
        x.open(-1, ALL, 2);
        x.fork(0, 1, CONSTANT, 11);
        x.fork(1, 5, CONSTANT, 1);
        x.then(0, 0, ADD, 1, false);
        x.then(1, 0, ADD, 1, false);
        x.then(0, 0, ADD, 2, true);
        x.joinScope(0);
        x.joinScope(1);
        x.tick(2);
        CHECKS.stage(x, 2, VALUE, 12);
        CHECKS.stage(x, 3, WRAPPED, 7);
        CHECKS.stage(x, 1, FAILURE, 7);
        CHECKS.stage(x, 4, PENDING, 0);
        CHECKS.equal("place in the pool", x.stage(4, 3), 0);
        x.work(1);
        CHECKS.stage(x, 4, VALUE, 13);
    }

    private static void resultsSettleBeforeTheLine() {
        PromiseScopes x = new PromiseScopes();
        x.open(-1, ALL, -1);
        x.open(-1, ALL, -1);
        x.fork(0, 1, CONSTANT, 10);
        x.fork(1, 1, CONSTANT, 20);
        x.then(1, 0, ADD, 1, false);
        x.several(0b101, 8);
        x.then(0, 0, ADD, 2, false);
        x.several(0b10100, 8);
        x.joinScope(0);
        x.joinScope(1);
        x.tick(1);
        CHECKS.stage(x, 3, VALUE, 10);
        CHECKS.stage(x, 5, VALUE, 21);
    }

    private static void lineIsWorkedOffAtEachTick() {
        PromiseScopes x = new PromiseScopes();
        x.open(-1, ALL, -1);
        x.open(-1, ALL, -1);
        x.fork(0, 2, CONSTANT, 10);
        x.fork(1, 1, CONSTANT, 20);
        x.then(1, 0, ADD, 1, false);
        x.several(0b101, 8);
        x.joinScope(0);
        x.joinScope(1);
        x.tick(2);
        CHECKS.stage(x, 3, VALUE, 21);
    }

    private static void greatestNumbersCloseFirst() {
        PromiseScopes x = new PromiseScopes();
        x.open(-1, ALL, -1);
        x.open(-1, ALL, -1);
        x.open(-1, ALL, -1);
        for (int i = 0; i < 3; i++) {
            x.fork(i, 1, CONSTANT, 10 * i);
            x.joinScope(i);
        }
        x.several(0b111, 8);
        x.both(0, 1, 6, ADD, 0, false);
        x.tick(1);
        CHECKS.stage(x, 3, VALUE, 20);
        CHECKS.stage(x, 4, VALUE, 10);
    }

    private static void scopeQuestions() {
        PromiseScopes x = new PromiseScopes();
        x.source();
        x.open(-1, ALL, 40);
        x.open(0, ALL, -1);
        x.fork(0, 3, CONSTANT, 1);
        x.fork(0, 1, THROW, 1);
        x.fork(0, 2, THROW, 1);
        x.fork(1, 9, THROW, 1);
        x.tick(2);
        int[] due = {OPEN, 1, 40, 1, 0, 2};
        for (int w = 0; w < due.length; w++) {
            CHECKS.equal("scope(0, " + w + ")", x.scope(0, w), due[w]);
        }
        for (int w : new int[] {-1, 6, MAX, MIN}) {
            CHECKS.equal("scope(0, " + w + ")", x.scope(0, w), -1);
        }
        for (int scope : new int[] {-1, 2, 12, MAX, MIN}) {
            for (int w = 0; w <= 5; w++) {
                CHECKS.equal("scope(" + scope + ", " + w + ")", x.scope(scope, w), -1);
            }
        }
    }

    private static void boundQuestions() {
        PromiseScopes x = new PromiseScopes();
        x.open(-1, ALL, -1);
        x.open(0, ALL, -1);
        x.bind(0, 3, -9);
        CHECKS.equal("bound(1, 3)", x.bound(1, 3), -9);
        CHECKS.equal("bound(1, 0)", x.bound(1, 0), 0);
        for (int key : new int[] {-1, 4, MAX, MIN}) {
            CHECKS.refuses("bound(0, " + key + ")", IllegalArgumentException.class, () -> x.bound(0, key));
        }
        for (int scope : new int[] {-1, 2, MAX, MIN}) {
            CHECKS.refuses("bound(" + scope + ", 0)", IllegalArgumentException.class, () -> x.bound(scope, 0));
        }
    }

    private static void taskQuestions() {
        PromiseScopes x = new PromiseScopes();
        x.open(-1, ALL, -1);
        x.open(-1, ALL, -1);
        x.fork(1, 2, CONSTANT, -1);
        x.tick(1);
        int[] due = {RUNNING, 1, 1, 0};
        for (int w = 0; w < due.length; w++) {
            CHECKS.equal("task(0, " + w + ")", x.task(0, w), due[w]);
        }
        x.tick(5);
        task(x, 0, DONE, 2, -1);
        for (int w : new int[] {-1, 4, MAX, MIN}) {
            CHECKS.equal("task(0, " + w + ")", x.task(0, w), -1);
        }
        for (int task : new int[] {-1, 1, 30, MAX, MIN}) {
            for (int w = 0; w <= 3; w++) {
                CHECKS.equal("task(" + task + ", " + w + ")", x.task(task, w), -1);
            }
        }
    }
}
