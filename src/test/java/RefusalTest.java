/** Each sentence that says when a call is refused: its answer is the one that is due, and nothing changes behind it. */
public final class RefusalTest {
    private static final int MAX = Integer.MAX_VALUE;
    private static final int MIN = Integer.MIN_VALUE;

    // What busy() makes.
    private static final int VALUE = 0;
    private static final int FAILED = 1;
    private static final int PENDING = 2;
    private static final int LEAST_THAT_IS_NO_STAGE = 14;
    private static final int[] STAGES_WITH_AN_OUTCOME = {VALUE, FAILED, 7, 8};
    private static final int[] NO_STAGES = {-1, LEAST_THAT_IS_NO_STAGE, 47, 48, MAX, MIN};
    private static final int OPEN = 0;
    private static final int JOINING = 1;
    private static final int CLOSED = 2;
    private static final int ABOVE_AN_OPEN_ONE = 3;
    private static final int[] NOT_OPEN_ONES = {JOINING, CLOSED};
    private static final int[] NO_SCOPES = {-1, 5, 11, 12, MAX, MIN};
    private static final int[] NO_TASKS = {-1, 2, 29, 30, MAX, MIN};

    private static final int[] NO_FUNCTIONS = {-1, 6, MAX, MIN};
    private static final int[] NO_KEYS = {-1, 4, MAX, MIN};
    private static final int[] NO_STEPS = {-1, 61, MAX, MIN};

    private static final Checks CHECKS = new Checks();
    private static final Twins NEW_ONES = new Twins(CHECKS, x -> { });
    private static final Twins BUSY_ONES = new Twins(CHECKS, RefusalTest::busy);
    private static final Twins FULL_OF_STAGES = new Twins(CHECKS, RefusalTest::fullOfStages);
    private static final Twins FULL_OF_SCOPES = new Twins(CHECKS, RefusalTest::fullOfScopes);
    private static final Twins FULL_OF_TASKS = new Twins(CHECKS, RefusalTest::fullOfTasks);

    private RefusalTest() {
    }

    public static void main(String[] args) {
        thePastsAreAsMeant();
        Sentences.runAll(RefusalTest.class, CHECKS);
    }

    // ---- the pasts of the objects

    /** Stages 0 .. 13, scopes 0 .. 4 and tasks 0 and 1 in every state, two stages in the pool, one COMPOSE that waits. */
    private static void busy(PromiseScopes x) {
        x.source();
        x.source();
        x.source();
        x.complete(VALUE, 4);
        x.fail(FAILED, 3);
        x.then(PENDING, 0, 0, 1, false);
        x.then(VALUE, 0, 1, 3, true);
        x.then(VALUE, 4, 4, PENDING, false);
        x.both(PENDING, VALUE, 6, 0, 0, true);
        x.then(FAILED, 0, 0, 0, false);
        x.source();
        x.cancel(8);
        x.open(-1, 0, 40);
        x.open(-1, 1, -1);
        x.open(-1, 2, -1);
        x.open(-1, 0, -1);
        x.open(ABOVE_AN_OPEN_ONE, 0, -1);
        x.bind(OPEN, 0, 5);
        x.fork(OPEN, 3, 0, 1);
        x.fork(JOINING, 9, 4, 2);
        x.joinScope(JOINING);
        x.joinScope(CLOSED);
        x.tick(1);
    }

    private static void fullOfStages(PromiseScopes x) {
        busy(x);
        while (x.count(0) < 48) {
            x.source();
        }
    }

    private static void fullOfScopes(PromiseScopes x) {
        busy(x);
        for (int p = 5; p < 12; p++) {
            x.open(OPEN, p % 3, p);
        }
    }

    private static void fullOfTasks(PromiseScopes x) {
        busy(x);
        for (int t = 2; t < 30; t++) {
            x.fork(t % 2 == 0 ? OPEN : ABOVE_AN_OPEN_ONE, 1 + t, 0, t);
        }
    }

    private static void thePastsAreAsMeant() {
        PromiseScopes x = new PromiseScopes();
        busy(x);
        int[] states = {1, 2, 0, 0, 0, 0, 0, 3, 2, 0, 0, 2, 0, 0};
        CHECKS.equal("stages", x.count(0), states.length);
        for (int s = 0; s < states.length; s++) {
            CHECKS.equal("state of " + s, x.stage(s, 0), states[s]);
        }
        CHECKS.equal("pool", x.count(1), 2);
        CHECKS.equal("tasks", x.count(3), 2);
        int[] phases = {0, 1, 2, 0, 0};
        CHECKS.equal("scopes", x.count(2), phases.length);
        for (int p = 0; p < phases.length; p++) {
            CHECKS.equal("phase of " + p, x.scope(p, 0), phases[p]);
        }
    }

    // ---- promises 2 to 5: making stages

    @Says("A new SOURCE: its number. IllegalStateException if there are 48 stages.")
    private static void sourceWith48Stages() {
        FULL_OF_STAGES.throwIllegalState("source()", x -> x.source());
    }

    @Says("IllegalArgumentException if a number is not as said or there is no stage s")
    private static void thenOnNoStage() {
        NEW_ONES.throwIllegalArgument("then on 0 of none", x -> x.then(0, 0, 0, 0, false));
        for (int s : NO_STAGES) {
            BUSY_ONES.throwIllegalArgument("then on " + s, x -> x.then(s, 0, 0, 0, false));
            BUSY_ONES.throwIllegalArgument("async then on " + s, x -> x.then(s, 4, 5, 1, true));
        }
    }

    @Says("A new stage of kind 0 .. 4 on stage s")
    private static void thenOfNoSuchKind() {
        for (int kind : new int[] {-1, 5, 6, 7, 8, 9, MAX, MIN}) {
            BUSY_ONES.throwIllegalArgument("then of kind " + kind, x -> x.then(VALUE, kind, 0, 0, false));
        }
    }

    @Says("with a function 0 .. 5 and its number: its number.")
    private static void thenOfNoSuchFunction() {
        for (int function : NO_FUNCTIONS) {
            BUSY_ONES.throwIllegalArgument("then of function " + function, x -> x.then(VALUE, 0, function, 0, true));
        }
    }

    @Says("IllegalArgumentException if a number is not as said or there is no stage s; "
            + "IllegalStateException if there are 48 stages.")
    private static void thenWith48Stages() {
        for (int kind = 0; kind <= 4; kind++) {
            int each = kind;
            FULL_OF_STAGES.throwIllegalState("then of kind " + kind, x -> x.then(VALUE, each, 0, 0, each % 2 == 0));
        }
        FULL_OF_STAGES.throwIllegalState("then on the last", x -> x.then(47, 0, 5, 0, false));
    }

    @Says("A new stage of kind 5 or 6 on the stages s and t: its number. Throws as then.")
    private static void bothOnNoStage() {
        NEW_ONES.throwIllegalArgument("both on 0 of none", x -> x.both(0, 0, 5, 0, 0, false));
        for (int s : NO_STAGES) {
            BUSY_ONES.throwIllegalArgument("both on first " + s, x -> x.both(s, VALUE, 6, 0, 0, false));
            BUSY_ONES.throwIllegalArgument("both on second " + s, x -> x.both(VALUE, s, 6, 0, 0, true));
            BUSY_ONES.throwIllegalArgument("both on twice " + s, x -> x.both(s, s, 5, 0, 0, false));
        }
    }

    @Says("A new stage of kind 5 or 6")
    private static void bothOfNoSuchKind() {
        for (int kind : new int[] {-1, 0, 4, 7, 8, 9, MAX, MIN}) {
            BUSY_ONES.throwIllegalArgument("both of kind " + kind, x -> x.both(VALUE, FAILED, kind, 0, 0, false));
        }
    }

    @Says("Throws as then.")
    private static void bothOfNoSuchFunction() {
        for (int function : NO_FUNCTIONS) {
            BUSY_ONES.throwIllegalArgument("both of function " + function,
                    x -> x.both(VALUE, PENDING, 5, function, 0, false));
        }
    }

    @Says("on the stages s and t: its number. Throws as then.")
    private static void bothWith48Stages() {
        FULL_OF_STAGES.throwIllegalState("COMBINE", x -> x.both(VALUE, FAILED, 5, 0, 0, false));
        FULL_OF_STAGES.throwIllegalState("EITHER", x -> x.both(47, VALUE, 6, 5, 0, true));
    }

    @Says("on the stages whose bits are set in set (the lowest for stage 0), one or more: its number.")
    private static void severalOfNone() {
        NEW_ONES.throwIllegalArgument("several of the empty set of none", x -> x.several(0, 7));
        for (int kind = 7; kind <= 8; kind++) {
            int each = kind;
            BUSY_ONES.throwIllegalArgument("several of the empty set", x -> x.several(0, each));
        }
    }

    @Says("on the stages whose bits are set in set (the lowest for stage 0)")
    private static void severalOnNoStage() {
        NEW_ONES.throwIllegalArgument("several on 0 of none", x -> x.several(1, 8));
        for (int bit : new int[] {LEAST_THAT_IS_NO_STAGE, 31, 32, 47, 48, 62, 63}) {
            BUSY_ONES.throwIllegalArgument("several of bit " + bit, x -> x.several(1L << bit, 8));
            BUSY_ONES.throwIllegalArgument("several of 0 and bit " + bit, x -> x.several(1L << bit | 1, 7));
        }
        BUSY_ONES.throwIllegalArgument("several of all bits", x -> x.several(-1, 8));
        FULL_OF_STAGES.throwIllegalArgument("several of bit 48", x -> x.several(1L << 48 | 1, 8));
    }

    @Says("A new stage of kind 7 or 8")
    private static void severalOfNoSuchKind() {
        for (int kind : new int[] {-1, 0, 4, 5, 6, 9, MAX, MIN}) {
            BUSY_ONES.throwIllegalArgument("several of kind " + kind, x -> x.several(1, kind));
        }
    }

    @Says("one or more: its number. Throws as then.")
    private static void severalWith48Stages() {
        FULL_OF_STAGES.throwIllegalState("ALL", x -> x.several(1, 7));
        FULL_OF_STAGES.throwIllegalState("ANY of all", x -> x.several((1L << 48) - 1, 8));
    }

    // ---- promises 6 to 12: outcomes, the pool, and questions

    @Says("Stage s becomes the value v: true; false if it is not PENDING or there is none such.")
    private static void completeIsRefused() {
        NEW_ONES.answerFalse("complete of 0 of none", x -> x.complete(0, 0));
        for (int s : NO_STAGES) {
            BUSY_ONES.answerFalse("complete of " + s, x -> x.complete(s, 1));
        }
        for (int s : STAGES_WITH_AN_OUTCOME) {
            BUSY_ONES.answerFalse("complete of settled " + s, x -> x.complete(s, 99));
        }
        FULL_OF_STAGES.answerFalse("complete of 48", x -> x.complete(48, 1));
    }

    @Says("false if it is not PENDING, there is none such, or e is not so.")
    private static void failIsRefused() {
        NEW_ONES.answerFalse("fail of 0 of none", x -> x.fail(0, 1));
        for (int s : NO_STAGES) {
            BUSY_ONES.answerFalse("fail of " + s, x -> x.fail(s, 1));
        }
        for (int s : STAGES_WITH_AN_OUTCOME) {
            BUSY_ONES.answerFalse("fail of settled " + s, x -> x.fail(s, 9));
        }
        FULL_OF_STAGES.answerFalse("fail of 48", x -> x.fail(48, 1));
    }

    @Says("Stage s becomes the failure e, 1 .. 9, not wrapped: true; "
            + "false if it is not PENDING, there is none such, or e is not so.")
    private static void failWithNoSuchFailure() {
        for (int e : new int[] {0, -1, 10, MAX, MIN}) {
            BUSY_ONES.answerFalse("fail with " + e, x -> x.fail(PENDING, e));
        }
    }

    @Says("Stage s becomes the failure 0, not wrapped: true; false if it is not PENDING or there is none such.")
    private static void cancelIsRefused() {
        NEW_ONES.answerFalse("cancel of 0 of none", x -> x.cancel(0));
        for (int s : NO_STAGES) {
            BUSY_ONES.answerFalse("cancel of " + s, x -> x.cancel(s));
        }
        for (int s : STAGES_WITH_AN_OUTCOME) {
            BUSY_ONES.answerFalse("cancel of settled " + s, x -> x.cancel(s));
        }
        FULL_OF_STAGES.answerFalse("cancel of 48", x -> x.cancel(48));
    }

    @Says("Up to n stages, 0 .. 60, are taken from the pool's front, one after the other: how many. "
            + "NONE for any other n.")
    private static void workOfNoSuchNumber() {
        for (int n : NO_STEPS) {
            NEW_ONES.answerNone("work(" + n + ")", x -> x.work(n));
            BUSY_ONES.answerNone("work(" + n + ")", x -> x.work(n));
        }
    }

    @Says("The value of stage s. IllegalArgumentException if there is none such")
    private static void joinOfNoStage() {
        NEW_ONES.throwIllegalArgument("join(0) of none", x -> x.join(0));
        for (int s : NO_STAGES) {
            BUSY_ONES.throwIllegalArgument("join(" + s + ")", x -> x.join(s));
        }
        FULL_OF_STAGES.throwIllegalArgument("join(48)", x -> x.join(48));
    }

    @Says("UnsupportedOperationException if it is PENDING")
    private static void joinOfAPendingStage() {
        for (int s : new int[] {PENDING, 3, 4, 5, 6, 9, 10, 12, 13}) {
            BUSY_ONES.throwUnsupported("join(" + s + ")", x -> x.join(s));
        }
    }

    @Says("IllegalStateException if it failed.")
    private static void joinOfAFailure() {
        for (int s : new int[] {FAILED, 7, 8, 11}) {
            BUSY_ONES.throwIllegalState("join(" + s + ")", x -> x.join(s));
        }
    }

    @Says("NONE if there is none such or no such w. (A value can be -1, too.)")
    private static void stageOfNoneSuch() {
        for (int w = 0; w <= 3; w++) {
            int each = w;
            NEW_ONES.answerNone("stage(0, " + w + ") of none", x -> x.stage(0, each));
            for (int s : NO_STAGES) {
                BUSY_ONES.answerNone("stage(" + s + ", " + w + ")", x -> x.stage(s, each));
            }
            FULL_OF_STAGES.answerNone("stage(48, " + w + ")", x -> x.stage(48, each));
        }
    }

    @Says("or no such w. (A value can be -1, too.)")
    private static void stageOfNoSuchQuestion() {
        for (int w : new int[] {-1, 4, 9, MAX, MIN}) {
            BUSY_ONES.answerNone("stage(0, " + w + ")", x -> x.stage(VALUE, w));
        }
    }

    @Says("which 0 .. 4; NONE for any other.")
    private static void countOfNoSuchNumber() {
        for (int which : new int[] {-1, 5, MAX, MIN}) {
            NEW_ONES.answerNone("count(" + which + ")", x -> x.count(which));
            BUSY_ONES.answerNone("count(" + which + ")", x -> x.count(which));
        }
    }

    // ---- promises 13 to 17: scopes

    @Says("IllegalArgumentException if there is no such parent")
    private static void openInNoScope() {
        NEW_ONES.throwIllegalArgument("open in 0 of none", x -> x.open(0, 0, -1));
        BUSY_ONES.throwIllegalArgument("open in -2", x -> x.open(-2, 0, -1));
        for (int parent : NO_SCOPES) {
            if (parent != -1) {
                BUSY_ONES.throwIllegalArgument("open in " + parent, x -> x.open(parent, 1, 3));
            }
        }
    }

    @Says("it is not OPEN, or policy is not 0 .. 2")
    private static void openInAScopeThatIsNotOpen() {
        for (int parent : NOT_OPEN_ONES) {
            BUSY_ONES.throwIllegalArgument("open in " + parent, x -> x.open(parent, 0, -1));
        }
    }

    @Says("or policy is not 0 .. 2")
    private static void openWithNoSuchPolicy() {
        for (int policy : new int[] {-1, 3, MAX, MIN}) {
            NEW_ONES.throwIllegalArgument("open with policy " + policy, x -> x.open(-1, policy, -1));
            BUSY_ONES.throwIllegalArgument("open with policy " + policy, x -> x.open(OPEN, policy, 7));
        }
    }

    @Says("IllegalStateException if there are 12 scopes or 48 stages.")
    private static void openWith12Scopes() {
        FULL_OF_SCOPES.throwIllegalState("open without parent", x -> x.open(-1, 0, -1));
        FULL_OF_SCOPES.throwIllegalState("open in a scope", x -> x.open(11, 2, 0));
    }

    @Says("12 scopes or 48 stages.")
    private static void openWith48Stages() {
        FULL_OF_STAGES.throwIllegalState("open without parent", x -> x.open(-1, 0, -1));
        FULL_OF_STAGES.throwIllegalState("open in a scope", x -> x.open(OPEN, 2, 0));
    }

    @Says("true; false if it is not OPEN, or there is no such scope or key.")
    private static void bindInAScopeThatIsNotOpen() {
        for (int p : NOT_OPEN_ONES) {
            BUSY_ONES.answerFalse("bind in " + p, x -> x.bind(p, 0, 8));
        }
    }

    @Says("or there is no such scope or key.")
    private static void bindInNoScope() {
        NEW_ONES.answerFalse("bind in 0 of none", x -> x.bind(0, 0, 8));
        for (int p : NO_SCOPES) {
            BUSY_ONES.answerFalse("bind in " + p, x -> x.bind(p, 0, 8));
        }
        FULL_OF_SCOPES.answerFalse("bind in 12", x -> x.bind(12, 0, 8));
    }

    @Says("no such scope or key.")
    private static void bindOfNoKey() {
        for (int key : NO_KEYS) {
            BUSY_ONES.answerFalse("bind of key " + key, x -> x.bind(OPEN, key, 8));
        }
    }

    @Says("IllegalArgumentException if there is no such scope, it is not OPEN, or a number is not as said")
    private static void forkInNoScope() {
        NEW_ONES.throwIllegalArgument("fork in 0 of none", x -> x.fork(0, 1, 0, 0));
        for (int p : NO_SCOPES) {
            BUSY_ONES.throwIllegalArgument("fork in " + p, x -> x.fork(p, 1, 0, 0));
        }
        FULL_OF_SCOPES.throwIllegalArgument("fork in 12", x -> x.fork(12, 1, 0, 0));
    }

    @Says("it is not OPEN, or a number is not as said")
    private static void forkInAScopeThatIsNotOpen() {
        for (int p : NOT_OPEN_ONES) {
            BUSY_ONES.throwIllegalArgument("fork in " + p, x -> x.fork(p, 1, 0, 0));
        }
    }

    @Says("A task is forked in an OPEN scope with a COST, 1 .. 50")
    private static void forkWithNoSuchCost() {
        for (int cost : new int[] {0, -1, 51, MAX, MIN}) {
            BUSY_ONES.throwIllegalArgument("fork with cost " + cost, x -> x.fork(OPEN, cost, 0, 0));
        }
    }

    @Says("or a number is not as said")
    private static void forkWithNoSuchFunction() {
        for (int function : NO_FUNCTIONS) {
            BUSY_ONES.throwIllegalArgument("fork with function " + function, x -> x.fork(OPEN, 1, function, 0));
        }
    }

    @Says("IllegalStateException if there are 30 tasks.")
    private static void forkWith30Tasks() {
        FULL_OF_TASKS.throwIllegalState("fork", x -> x.fork(OPEN, 1, 0, 0));
        FULL_OF_TASKS.throwIllegalState("fork", x -> x.fork(ABOVE_AN_OPEN_ONE, 50, 5, 0));
    }

    @Says("An OPEN scope is JOINING: true; false if it is not OPEN, or one below it is OPEN, or there is none such.")
    private static void joinScopeOfOneThatIsNotOpen() {
        for (int p : NOT_OPEN_ONES) {
            BUSY_ONES.answerFalse("joinScope(" + p + ")", x -> x.joinScope(p));
        }
    }

    @Says("or one below it is OPEN")
    private static void joinScopeAboveAnOpenOne() {
        BUSY_ONES.answerFalse("joinScope", x -> x.joinScope(ABOVE_AN_OPEN_ONE));
        FULL_OF_SCOPES.answerFalse("joinScope", x -> x.joinScope(OPEN));
    }

    @Says("or there is none such.")
    private static void joinScopeOfNone() {
        NEW_ONES.answerFalse("joinScope(0) of none", x -> x.joinScope(0));
        for (int p : NO_SCOPES) {
            BUSY_ONES.answerFalse("joinScope(" + p + ")", x -> x.joinScope(p));
        }
        FULL_OF_SCOPES.answerFalse("joinScope(12)", x -> x.joinScope(12));
    }

    @Says("A scope that is not closed is STOPPED: true; false if it is closed or there is none such.")
    private static void cancelScopeOfAClosedOne() {
        BUSY_ONES.answerFalse("cancelScope", x -> x.cancelScope(CLOSED));
    }

    @Says("false if it is closed or there is none such.")
    private static void cancelScopeOfNone() {
        NEW_ONES.answerFalse("cancelScope(0) of none", x -> x.cancelScope(0));
        for (int p : NO_SCOPES) {
            BUSY_ONES.answerFalse("cancelScope(" + p + ")", x -> x.cancelScope(p));
        }
        FULL_OF_SCOPES.answerFalse("cancelScope(12)", x -> x.cancelScope(12));
    }

    // ---- promises 18 to 21: the time, and questions

    @Says("n ticks, 0 .. 60: how many tasks ended; NONE for any other n.")
    private static void tickOfNoSuchNumber() {
        for (int n : NO_STEPS) {
            NEW_ONES.answerNone("tick(" + n + ")", x -> x.tick(n));
            BUSY_ONES.answerNone("tick(" + n + ")", x -> x.tick(n));
        }
    }

    @Says("5: how many tasks FAILED. NONE if there is none such or no such w.")
    private static void scopeOfNoneSuch() {
        for (int w = 0; w <= 5; w++) {
            int each = w;
            NEW_ONES.answerNone("scope(0, " + w + ") of none", x -> x.scope(0, each));
            for (int p : NO_SCOPES) {
                BUSY_ONES.answerNone("scope(" + p + ", " + w + ")", x -> x.scope(p, each));
            }
            FULL_OF_SCOPES.answerNone("scope(12, " + w + ")", x -> x.scope(12, each));
        }
    }

    @Says("NONE if there is none such or no such w.")
    private static void scopeOfNoSuchQuestion() {
        for (int w : new int[] {-1, 6, MAX, MIN}) {
            BUSY_ONES.answerNone("scope(0, " + w + ")", x -> x.scope(OPEN, w));
        }
    }

    @Says("IllegalArgumentException if there is no such scope or key.")
    private static void boundInNoScope() {
        NEW_ONES.throwIllegalArgument("bound(0, 0) of none", x -> x.bound(0, 0));
        for (int p : NO_SCOPES) {
            BUSY_ONES.throwIllegalArgument("bound(" + p + ", 0)", x -> x.bound(p, 0));
        }
        FULL_OF_SCOPES.throwIllegalArgument("bound(12, 0)", x -> x.bound(12, 0));
    }

    @Says("The value of a key in a scope; 0 if it has none. IllegalArgumentException if there is no such scope or key.")
    private static void boundOfNoKey() {
        for (int key : NO_KEYS) {
            BUSY_ONES.throwIllegalArgument("bound(0, " + key + ")", x -> x.bound(OPEN, key));
        }
    }

    @Says("3: its value or failure (0 for others). NONE if there is none such or no such w.")
    private static void taskOfNoneSuch() {
        for (int w = 0; w <= 3; w++) {
            int each = w;
            NEW_ONES.answerNone("task(0, " + w + ") of none", x -> x.task(0, each));
            for (int t : NO_TASKS) {
                BUSY_ONES.answerNone("task(" + t + ", " + w + ")", x -> x.task(t, each));
            }
            FULL_OF_TASKS.answerNone("task(30, " + w + ")", x -> x.task(30, each));
        }
    }

    @Says("(0 for others). NONE if there is none such or no such w.")
    private static void taskOfNoSuchQuestion() {
        for (int w : new int[] {-1, 4, MAX, MIN}) {
            BUSY_ONES.answerNone("task(0, " + w + ")", x -> x.task(0, w));
        }
    }
}
