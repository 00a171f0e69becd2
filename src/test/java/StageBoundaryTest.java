import java.util.function.ToIntFunction;

/**
 * The terms on stages, and promises 1 to 12: each sentence that names a boundary case has a test of
 * its own. What is refused stands in RefusalTest.
 */
public final class StageBoundaryTest {
    private static final int MAX = Integer.MAX_VALUE;
    private static final int MIN = Integer.MIN_VALUE;

    private static final int APPLY = 0;
    private static final int EXCEPTIONALLY = 1;
    private static final int HANDLE = 2;
    private static final int WHEN = 3;
    private static final int COMPOSE = 4;
    private static final int COMBINE = 5;
    private static final int EITHER = 6;
    private static final int ALL = 7;
    private static final int ANY = 8;
    private static final int SOURCE = 9;

    private static final int PENDING = 0;
    private static final int VALUE = 1;
    private static final int FAILURE = 2;
    private static final int WRAPPED = 3;

    private static final int ADD = 0;
    private static final int MULTIPLY = 1;
    private static final int REFUSE_ONE = 2;
    private static final int THROW = 3;
    private static final int CONSTANT = 4;
    private static final int DIVIDE = 5;

    private static final Checks CHECKS = new Checks();

    private StageBoundaryTest() {
    }

    public static void main(String[] args) {
        Sentences.runAll(StageBoundaryTest.class, CHECKS);
    }

    private static PromiseScopes sources(int n) {
        PromiseScopes x = new PromiseScopes();
        for (int s = 0; s < n; s++) {
            x.source();
        }
        return x;
    }

    /** A source with the value v, and on it a stage 1. */
    private static PromiseScopes onValue(int v, int kind, int function, int a) {
        PromiseScopes x = sources(1);
        x.complete(0, v);
        x.then(0, kind, function, a, false);
        return x;
    }

    /** A source with the failure e (0: cancelled), and on it a stage 1. */
    private static PromiseScopes onFailure(int e, int kind, int function, int a) {
        PromiseScopes x = sources(1);
        if (e == 0) {
            x.cancel(0);
        } else {
            x.fail(0, e);
        }
        x.then(0, kind, function, a, false);
        return x;
    }

    private static void makes(int v, int function, int a, int due) {
        CHECKS.stage(onValue(v, APPLY, function, a), 1, VALUE, due);
    }

    private static void throwsOf(int v, int function, int a, int due) {
        CHECKS.stage(onValue(v, APPLY, function, a), 1, WRAPPED, due);
    }

    // ---- what it is

    @Says("An object is used for at most 512 calls after it has been made")
    private static void the512thCallAnswers() {
        PromiseScopes ticking = new PromiseScopes();
        for (int call = 1; call <= 511; call++) {
            ticking.tick(60);
        }
        CHECKS.equal("the time at call 512", ticking.count(4), 511 * 60);

        PromiseScopes made = sources(47);
        for (int call = 48; call <= 511; call++) {
            made.complete(call % 47, call);
        }
        CHECKS.equal("a stage made by call 512", made.several((1L << 47) - 1, ALL), 47);
    }

    // ---- terms: numbers and outcomes

    /** The 48th stage is made by this call, and has the number 47. */
    private static void makes48th(String what, ToIntFunction<PromiseScopes> call, int due) {
        PromiseScopes x = sources(47);
        CHECKS.equal(what + " as the 48th", call.applyAsInt(x), due);
        CHECKS.equal("count(0)", x.count(0), 48);
        CHECKS.equal("state of the 48th", x.stage(47, 0), PENDING);
        CHECKS.equal("stage(48, 0)", x.stage(48, 0), -1);
        CHECKS.refuses(what + " of a 49th", IllegalStateException.class, () -> x.source());
        x.complete(0, 5);
        x.complete(46, 6);
        x.complete(47, 7);
        CHECKS.equal("state of the 48th", x.stage(47, 0), VALUE);
    }

    @Says("STAGES are numbered 0, 1, .. as they are made, at most 48.")
    private static void every48thStageIsMade() {
        makes48th("source", x -> x.source(), 47);
        makes48th("then", x -> x.then(46, APPLY, ADD, 0, false), 47);
        makes48th("async then", x -> x.then(0, APPLY, ADD, 0, true), 47);
        makes48th("both", x -> x.both(0, 46, COMBINE, ADD, 0, false), 47);
        makes48th("several", x -> x.several((1L << 47) - 1, ALL), 47);
        makes48th("open", x -> x.open(-1, 0, -1), 0);
    }

    @Says("STAGES are numbered 0, 1, .. as they are made")
    private static void allCallsShareTheNumbers() {
        PromiseScopes x = new PromiseScopes();
        CHECKS.equal("source", x.source(), 0);
        CHECKS.equal("then", x.then(0, APPLY, ADD, 0, true), 1);
        CHECKS.equal("both", x.both(0, 1, EITHER, ADD, 0, false), 2);
        CHECKS.equal("several", x.several(0b111, ANY), 3);
        CHECKS.equal("open", x.open(-1, 0, -1), 0);
        CHECKS.equal("its result", x.scope(0, 1), 4);
        CHECKS.equal("source", x.source(), 5);
    }

    @Says("A stage is PENDING, or has an OUTCOME, which stays")
    private static void anOutcomeStays() {
        PromiseScopes x = sources(4);
        x.complete(0, -1);
        x.fail(1, 9);
        x.cancel(2);
        x.then(1, APPLY, ADD, 0, false);
        x.both(3, 0, EITHER, ADD, 0, false);
        int[] states = {VALUE, FAILURE, FAILURE, PENDING, WRAPPED, VALUE};
        int[] contents = {-1, 9, 0, 0, 9, -1};
        for (int s = 0; s < states.length; s++) {
            CHECKS.stage(x, s, states[s], contents[s]);
            if (states[s] != PENDING) {
                CHECKS.no("complete(" + s + ")", x.complete(s, 77));
                CHECKS.no("fail(" + s + ")", x.fail(s, 7));
                CHECKS.no("cancel(" + s + ")", x.cancel(s));
            }
        }
        x.complete(3, 30);
        x.work(60);
        x.tick(60);
        for (int s = 0; s < states.length; s++) {
            CHECKS.stage(x, s, s == 3 ? VALUE : states[s], s == 3 ? 30 : contents[s]);
        }
    }

    // ---- terms: functions

    @Says("0: x + a.")
    private static void sumsWrapAround() {
        makes(MAX, ADD, 0, MAX);
        makes(MAX, ADD, 1, MIN);
        makes(MIN, ADD, -1, MAX);
        makes(MAX, ADD, MAX, -2);
        makes(MIN, ADD, MIN, 0);
        makes(0, ADD, -1, -1);
    }

    @Says("1: x * a.")
    private static void productsWrapAround() {
        makes(46341, MULTIPLY, 46341, -2147479015);
        makes(46340, MULTIPLY, 46340, 2147395600);
        makes(65536, MULTIPLY, 65536, 0);
        makes(MAX, MULTIPLY, MAX, 1);
        makes(MIN, MULTIPLY, -1, MIN);
        makes(MIN, MULTIPLY, MIN, 0);
        makes(-1, MULTIPLY, 0, 0);
    }

    @Says("2: x if x is not a, otherwise it throws 1 + (a & 7).")
    private static void oneValueIsRefused() {
        for (int a : new int[] {0, 7, 8, -1, -8, MAX, MIN}) {
            throwsOf(a, REFUSE_ONE, a, 1 + (a & 7));
            makes(a + 1, REFUSE_ONE, a, a + 1);
            makes(a - 1, REFUSE_ONE, a, a - 1);
        }
    }

    @Says("3: it throws 1 + (a & 7).")
    private static void thrownIs1To8() {
        int[] as = {0, 6, 7, 8, 15, 16, -1, -7, -8, MAX, MIN};
        int[] due = {1, 7, 8, 1, 8, 1, 8, 2, 1, 8, 1};
        for (int i = 0; i < as.length; i++) {
            throwsOf(0, THROW, as[i], due[i]);
            throwsOf(as[i], THROW, as[i], due[i]);
        }
    }

    @Says("4: a.")
    private static void aConstantIsAny() {
        for (int a : new int[] {0, -1, 1, MAX, MIN}) {
            makes(5, CONSTANT, a, a);
            makes(a, CONSTANT, a, a);
        }
    }

    @Says("5: x / a, and it throws 9 if a is 0 (as Java divides).")
    private static void divisorIsZero() {
        for (int x : new int[] {0, 1, -1, MAX, MIN}) {
            throwsOf(x, DIVIDE, 0, 9);
            makes(x, DIVIDE, 1, x);
        }
    }

    @Says("x / a, and it throws 9 if a is 0 (as Java divides).")
    private static void quotientsAreCutTowardsZero() {
        makes(7, DIVIDE, 2, 3);
        makes(-7, DIVIDE, 2, -3);
        makes(7, DIVIDE, -2, -3);
        makes(-7, DIVIDE, -2, 3);
        makes(1, DIVIDE, 2, 0);
        makes(-1, DIVIDE, 2, 0);
        makes(MAX, DIVIDE, MIN, 0);
        makes(MIN, DIVIDE, MAX, -1);
    }

    @Says("(as Java divides)")
    private static void theGreatestQuotientWrapsAround() {
        makes(MIN, DIVIDE, -1, MIN);
        makes(MIN + 1, DIVIDE, -1, MAX);
    }

    // ---- terms: kinds of one input

    @Says("failures are wrapped once on their way")
    private static void aWrappedFailureStaysWrapped() {
        PromiseScopes x = onFailure(9, APPLY, ADD, 0);
        for (int s = 1; s < 40; s++) {
            x.then(s, s % 2 == 0 ? APPLY : WHEN, ADD, 1, false);
        }
        CHECKS.stage(x, 0, FAILURE, 9);
        CHECKS.stage(x, 1, WRAPPED, 9);
        CHECKS.stage(x, 40, WRAPPED, 9);
    }

    @Says("0 APPLY: of a value x the function's value, or, when that throws e, the failure e, wrapped; "
            + "of a failure the same one, wrapped.")
    private static void applyOfEachFailure() {
        for (int e = 0; e <= 9; e++) {
            for (int function = ADD; function <= DIVIDE; function++) {
                CHECKS.stage(onFailure(e, APPLY, function, 0), 1, WRAPPED, e);
            }
        }
    }

    @Says("1 EXCEPTIONALLY: of a value the same; of a failure e what the function makes of e as APPLY does.")
    private static void exceptionallyOfEachFailure() {
        for (int e = 0; e <= 9; e++) {
            CHECKS.stage(onFailure(e, EXCEPTIONALLY, ADD, MAX), 1, VALUE, MAX + e);
            CHECKS.stage(onFailure(e, EXCEPTIONALLY, REFUSE_ONE, e), 1, WRAPPED, 1 + (e & 7));
            CHECKS.stage(onFailure(e, EXCEPTIONALLY, REFUSE_ONE, e + 1), 1, VALUE, e);
            CHECKS.stage(onFailure(e, EXCEPTIONALLY, DIVIDE, 0), 1, WRAPPED, 9);
        }
    }

    @Says("1 EXCEPTIONALLY: of a value the same")
    private static void exceptionallyOfEachValue() {
        for (int v : new int[] {0, -1, 9, MAX, MIN}) {
            for (int function = ADD; function <= DIVIDE; function++) {
                CHECKS.stage(onValue(v, EXCEPTIONALLY, function, 0), 1, VALUE, v);
            }
        }
    }

    @Says("2 HANDLE: of a value x what the function makes of x, of a failure e what it makes of -1 - e, "
            + "both as APPLY does.")
    private static void handleOfEachFailure() {
        for (int e = 0; e <= 9; e++) {
            CHECKS.stage(onFailure(e, HANDLE, ADD, 0), 1, VALUE, -1 - e);
            CHECKS.stage(onFailure(e, HANDLE, ADD, MIN), 1, VALUE, MAX - e);
            CHECKS.stage(onFailure(e, HANDLE, REFUSE_ONE, -1 - e), 1, WRAPPED, 1 + (-1 - e & 7));
            CHECKS.stage(onFailure(e, HANDLE, REFUSE_ONE, e), 1, VALUE, -1 - e);
        }
    }

    @Says("2 HANDLE: of a value x what the function makes of x")
    private static void handleOfValuesBelowZero() {
        CHECKS.stage(onValue(-1, HANDLE, ADD, 0), 1, VALUE, -1);
        CHECKS.stage(onValue(MIN, HANDLE, ADD, -1), 1, VALUE, MAX);
        CHECKS.stage(onValue(-1, HANDLE, REFUSE_ONE, -1), 1, WRAPPED, 8);
        CHECKS.stage(onValue(-1, HANDLE, REFUSE_ONE, 0), 1, VALUE, -1);
    }

    @Says("3 WHEN: the same as its input, a failure wrapped; but if the function throws e for the value, "
            + "or for -1 - (the failure), and the input is a value, the failure e, wrapped.")
    private static void whenTheFunctionThrows() {
        for (int e = 0; e <= 9; e++) {
            CHECKS.stage(onFailure(e, WHEN, THROW, e + 1), 1, WRAPPED, e);
            CHECKS.stage(onFailure(e, WHEN, REFUSE_ONE, -1 - e), 1, WRAPPED, e);
            CHECKS.stage(onFailure(e, WHEN, DIVIDE, 0), 1, WRAPPED, e);
        }
        CHECKS.stage(onValue(-1, WHEN, REFUSE_ONE, -1), 1, WRAPPED, 8);
        CHECKS.stage(onValue(0, WHEN, DIVIDE, 0), 1, WRAPPED, 9);
        CHECKS.stage(onValue(MIN, WHEN, THROW, 8), 1, WRAPPED, 1);
    }

    @Says("3 WHEN: the same as its input")
    private static void whenTheFunctionThrowsNot() {
        for (int v : new int[] {0, -1, MAX, MIN}) {
            CHECKS.stage(onValue(v, WHEN, ADD, 1), 1, VALUE, v);
            CHECKS.stage(onValue(v, WHEN, REFUSE_ONE, -1 - v), 1, VALUE, v);
            CHECKS.stage(onValue(v, WHEN, DIVIDE, 3), 1, VALUE, v);
        }
    }

    // ---- terms: COMPOSE

    @Says("stage y, if there is none such the failure 8, wrapped")
    private static void composeToNoStage() {
        for (int y : new int[] {-1, 2, 47, 48, MAX, MIN}) {
            CHECKS.stage(onValue(5, COMPOSE, CONSTANT, y), 1, WRAPPED, 8);
            CHECKS.stage(onValue(y, COMPOSE, ADD, 0), 1, WRAPPED, 8);
        }
    }

    @Says("of a value x, the function making y of it (when it throws, as APPLY): stage y")
    private static void composeToTheFirstAndTheLastStage() {
        PromiseScopes x = sources(47);
        x.complete(0, 0);
        x.complete(46, 46);
        x.then(46, COMPOSE, CONSTANT, 0, false);
        CHECKS.stage(x, 47, VALUE, 0);

        PromiseScopes y = sources(1);
        y.then(0, COMPOSE, CONSTANT, 47, false);
        y.then(0, COMPOSE, CONSTANT, 48, false);
        for (int s = 3; s < 48; s++) {
            y.source();
        }
        y.complete(47, -1);
        y.complete(0, 5);
        CHECKS.stage(y, 1, VALUE, -1);
        CHECKS.stage(y, 2, WRAPPED, 8);
    }

    @Says("stage y, if there is none such the failure 8")
    private static void composeCountsTheStagesOfThen() {
        PromiseScopes x = onValue(2, COMPOSE, ADD, 0);
        CHECKS.stage(x, 1, WRAPPED, 8);
        x.source();
        x.complete(2, 7);
        CHECKS.stage(x, 1, WRAPPED, 8);
        x.then(0, COMPOSE, ADD, 0, false);
        CHECKS.stage(x, 3, VALUE, 7);
    }

    @Says("the function making y of it (when it throws, as APPLY)")
    private static void composeToASumThatWrapsAround() {
        CHECKS.stage(onValue(MAX, COMPOSE, ADD, MIN + 1), 1, VALUE, MAX);
        CHECKS.stage(onValue(MIN, COMPOSE, MULTIPLY, 2), 1, VALUE, MIN);
        CHECKS.stage(onValue(MIN, COMPOSE, DIVIDE, 0), 1, WRAPPED, 9);
        CHECKS.stage(onValue(0, COMPOSE, REFUSE_ONE, 0), 1, WRAPPED, 1);
        CHECKS.stage(onValue(0, COMPOSE, THROW, 7), 1, WRAPPED, 8);
    }

    @Says("4 COMPOSE: of a failure the same one, wrapped")
    private static void composeOfEachFailure() {
        for (int e = 0; e <= 9; e++) {
            CHECKS.stage(onFailure(e, COMPOSE, CONSTANT, 0), 1, WRAPPED, e);
            CHECKS.stage(onFailure(e, COMPOSE, CONSTANT, 9), 1, WRAPPED, e);
        }
    }

    @Says("otherwise it takes what that stage becomes, a failure wrapped")
    private static void composeToEachFailure() {
        for (int e = 0; e <= 9; e++) {
            PromiseScopes x = onFailure(e, APPLY, ADD, 0);
            x.source();
            x.then(2, COMPOSE, CONSTANT, 0, false);
            x.then(2, COMPOSE, CONSTANT, 1, false);
            x.complete(2, 0);
            CHECKS.stage(x, 3, WRAPPED, e);
            CHECKS.stage(x, 4, WRAPPED, e);
        }
    }

    @Says("(as soon as that has an outcome; never, if that is itself)")
    private static void composeToItselfNeverEnds() {
        PromiseScopes x = onValue(1, COMPOSE, ADD, 0);
        x.then(0, COMPOSE, ADD, 1, true);
        x.then(1, APPLY, ADD, 0, false);
        x.work(60);
        x.tick(60);
        x.source();
        x.complete(4, 1);
        CHECKS.stage(x, 1, PENDING, 0);
        CHECKS.stage(x, 2, PENDING, 0);
        CHECKS.stage(x, 3, PENDING, 0);
        CHECKS.equal("work(60)", x.work(60), 0);
        CHECKS.yes("complete of one that waits for itself", x.complete(1, 8));
        CHECKS.stage(x, 1, VALUE, 8);
        CHECKS.stage(x, 3, VALUE, 8);
        CHECKS.yes("cancel of one that waits for itself", x.cancel(2));
        CHECKS.stage(x, 2, FAILURE, 0);
    }

    @Says("otherwise it takes what that stage becomes, a failure wrapped (as soon as that has an outcome")
    private static void composesThatWaitForOneAnother() {
        PromiseScopes x = sources(1);
        x.then(0, COMPOSE, CONSTANT, 2, false);
        x.then(0, COMPOSE, CONSTANT, 3, false);
        x.then(0, COMPOSE, CONSTANT, 1, false);
        x.complete(0, 0);
        for (int s = 1; s <= 3; s++) {
            CHECKS.stage(x, s, PENDING, 0);
        }
        x.fail(2, 6);
        CHECKS.stage(x, 1, WRAPPED, 6);
        CHECKS.stage(x, 2, FAILURE, 6);
        CHECKS.stage(x, 3, WRAPPED, 6);
    }

    @Says("also if stage y has an outcome already: it goes to the LINE's end then")
    private static void composeToAnOutcomeGoesToTheLinesEnd() {
        PromiseScopes x = sources(2);
        x.complete(1, 5);
        x.then(0, COMPOSE, CONSTANT, 1, false);
        x.then(0, APPLY, ADD, 70, false);
        x.several(0b1100, ANY);
        x.complete(0, 1);
        CHECKS.stage(x, 2, VALUE, 5);
        CHECKS.stage(x, 4, VALUE, 71);
    }

    // ---- terms: kinds of several inputs

    @Says("of values x, y what the function makes of x + y, as APPLY does")
    private static void combinedSumsWrapAround() {
        int[][] rows = {{MAX, 1, MIN}, {MIN, -1, MAX}, {MIN, MIN, 0}, {MAX, MIN, -1}};
        for (int[] row : rows) {
            PromiseScopes x = sources(2);
            x.both(0, 1, COMBINE, ADD, 0, false);
            x.both(0, 1, COMBINE, REFUSE_ONE, row[2], false);
            x.complete(0, row[0]);
            x.complete(1, row[1]);
            CHECKS.stage(x, 2, VALUE, row[2]);
            CHECKS.stage(x, 3, WRAPPED, 1 + (row[2] & 7));
        }
    }

    @Says("otherwise the failure of the first one, or if that is a value of the second one, wrapped.")
    private static void combinedFailures() {
        PromiseScopes x = sources(3);
        int firstFails = x.both(0, 2, COMBINE, THROW, 5, false);
        int secondFails = x.both(2, 0, COMBINE, THROW, 5, false);
        int bothFail = x.both(1, 0, COMBINE, THROW, 5, false);
        int bothFailTheOtherWay = x.both(0, 1, COMBINE, THROW, 5, false);
        x.cancel(0);
        x.fail(1, 9);
        x.complete(2, 7);
        CHECKS.stage(x, firstFails, WRAPPED, 0);
        CHECKS.stage(x, secondFails, WRAPPED, 0);
        CHECKS.stage(x, bothFail, WRAPPED, 9);
        CHECKS.stage(x, bothFailTheOtherWay, WRAPPED, 0);
    }

    @Says("5 COMBINE, of two inputs, when both have an outcome")
    private static void combineWaitsForBoth() {
        PromiseScopes x = sources(2);
        x.both(0, 1, COMBINE, ADD, 0, false);
        x.both(1, 0, COMBINE, ADD, 0, true);
        x.fail(0, 1);
        CHECKS.stage(x, 2, PENDING, 0);
        CHECKS.equal("count(1)", x.count(1), 0);
        x.complete(1, 1);
        CHECKS.stage(x, 2, WRAPPED, 1);
        CHECKS.equal("count(1)", x.count(1), 1);
    }

    @Says("6 EITHER, of two inputs: of the outcome of the one that had its outcome first what APPLY would make.")
    private static void eitherOfTheFirstOutcome() {
        PromiseScopes x = sources(2);
        x.fail(1, 4);
        x.complete(0, 6);
        CHECKS.stage(x, x.both(0, 1, EITHER, CONSTANT, 3, false), WRAPPED, 4);
        CHECKS.stage(x, x.both(1, 0, EITHER, CONSTANT, 3, false), WRAPPED, 4);
        CHECKS.stage(x, x.both(0, 0, EITHER, ADD, MAX, false), VALUE, MIN + 5);
        CHECKS.stage(x, x.both(0, 2, EITHER, DIVIDE, 0, false), WRAPPED, 9);
    }

    @Says("of the outcome of the one that had its outcome first")
    private static void eitherBesideOneThatWaits() {
        PromiseScopes x = sources(3);
        x.then(0, COMPOSE, CONSTANT, 1, false);
        int either = x.both(3, 2, EITHER, ADD, 0, false);
        x.complete(0, 1);
        CHECKS.stage(x, either, PENDING, 0);
        x.complete(2, 22);
        CHECKS.stage(x, either, VALUE, 22);
        x.complete(1, 11);
        CHECKS.stage(x, 3, VALUE, 11);
        CHECKS.stage(x, x.both(3, 2, EITHER, ADD, 0, false), VALUE, 22);
        CHECKS.stage(x, x.both(3, 1, EITHER, ADD, 100, false), VALUE, 111);
    }

    @Says("the outcome of the one that had its outcome first")
    private static void anyOfStagesThatAreNoSources() {
        PromiseScopes x = sources(2);
        x.then(0, APPLY, THROW, 4, false);
        x.then(1, APPLY, ADD, 0, false);
        x.complete(0, 1);
        x.complete(1, 1);
        CHECKS.stage(x, x.several(0b1100, ANY), WRAPPED, 5);
        CHECKS.stage(x, x.several(0b1010, ANY), VALUE, 1);
        CHECKS.stage(x, x.both(3, 2, EITHER, ADD, 0, false), WRAPPED, 5);
        CHECKS.stage(x, x.both(2, 0, EITHER, ADD, 0, false), VALUE, 1);
    }

    @Says("7 ALL, of several inputs, when all have an outcome: the SUM of the values")
    private static void sumOfManyWrapsAround() {
        PromiseScopes x = sources(47);
        x.several((1L << 47) - 1, ALL);
        for (int s = 0; s < 46; s++) {
            x.complete(s, MAX);
        }
        CHECKS.stage(x, 47, PENDING, 0);
        x.complete(46, MAX);
        CHECKS.stage(x, 47, VALUE, MAX * 47);
    }

    @Says("or the failure of the input with the least number that failed, wrapped.")
    private static void allOfFailures() {
        PromiseScopes x = sources(4);
        x.several(0b1111, ALL);
        x.several(0b1000, ALL);
        x.fail(3, 9);
        x.fail(2, 5);
        x.complete(0, 1);
        CHECKS.stage(x, 4, PENDING, 0);
        x.cancel(1);
        CHECKS.stage(x, 4, WRAPPED, 0);
        CHECKS.stage(x, 5, WRAPPED, 9);
    }

    @Says("8 ANY, of several: the outcome of the one that had its outcome first, a failure wrapped.")
    private static void anyOfTheFirstOutcome() {
        PromiseScopes x = sources(46);
        x.several((1L << 46) - 1, ANY);
        x.fail(45, 9);
        x.complete(0, 1);
        CHECKS.stage(x, 46, WRAPPED, 9);
        CHECKS.stage(x, x.several(1L << 45 | 1, ANY), WRAPPED, 9);
    }

    @Says("one or more: its number.")
    private static void severalOfOne() {
        PromiseScopes x = sources(1);
        CHECKS.equal("several", x.several(1, ALL), 1);
        CHECKS.equal("several", x.several(1, ANY), 2);
        x.complete(0, MIN);
        CHECKS.stage(x, 1, VALUE, MIN);
        CHECKS.stage(x, 2, VALUE, MIN);
    }

    @Says("the stages whose bits are set in set (the lowest for stage 0)")
    private static void theLowestAndTheHighestBit() {
        PromiseScopes x = sources(47);
        x.complete(0, 100);
        x.complete(31, 200);
        x.complete(32, 300);
        x.complete(46, 400);
        CHECKS.equal("several", x.several(1L << 46 | 1L << 32 | 1L << 31 | 1, ALL), 47);
        CHECKS.stage(x, 47, VALUE, 1000);
    }

    // ---- terms: the LINE and the POOL

    @Says("the kinds 0 to 5 and 7 when all inputs have an outcome, 6 and 8 when one has")
    private static void ableWithOneOfTwoInputs() {
        PromiseScopes x = sources(2);
        x.complete(1, 0);
        for (int kind = APPLY; kind <= COMPOSE; kind++) {
            CHECKS.stage(x, x.then(0, kind, ADD, 0, false), PENDING, 0);
        }
        CHECKS.stage(x, x.both(0, 1, COMBINE, ADD, 0, false), PENDING, 0);
        CHECKS.stage(x, x.several(0b11, ALL), PENDING, 0);
        CHECKS.stage(x, x.both(0, 1, EITHER, ADD, 0, false), VALUE, 0);
        CHECKS.stage(x, x.several(0b11, ANY), VALUE, 0);
    }

    @Says("There are a LINE and a POOL of stages, empty at first.")
    private static void thePoolIsEmptyAtFirst() {
        PromiseScopes x = new PromiseScopes();
        CHECKS.equal("count(1)", x.count(1), 0);
        CHECKS.equal("work(0)", x.work(0), 0);
        CHECKS.equal("work(1)", x.work(1), 0);
        CHECKS.equal("work(60)", x.work(60), 0);
    }

    @Says("all stages that are ABLE then and in neither of the two go")
    private static void noStageStandsInThePoolTwice() {
        PromiseScopes x = sources(3);
        x.both(0, 1, EITHER, ADD, 0, true);
        x.complete(1, 1);
        x.complete(0, 2);
        x.complete(2, 3);
        x.source();
        CHECKS.equal("count(1)", x.count(1), 1);
        CHECKS.equal("work(60)", x.work(60), 1);
        CHECKS.stage(x, 3, VALUE, 1);
    }

    @Says("go, in the order of their numbers, to the end of the LINE")
    private static void theLineKeepsTheOrderOfNumbers() {
        PromiseScopes x = sources(1);
        x.then(0, APPLY, ADD, 10, false);
        x.then(0, APPLY, ADD, 20, false);
        x.then(1, APPLY, ADD, 100, false);
        x.both(2, 1, EITHER, ADD, 0, false);
        x.both(3, 2, EITHER, ADD, 0, false);
        x.complete(0, 1);
        CHECKS.stage(x, 4, VALUE, 11);
        CHECKS.stage(x, 5, VALUE, 21);
    }

    @Says("and so on until it is empty.")
    private static void theLongestLineIsWorkedOff() {
        PromiseScopes x = sources(2);
        x.complete(1, 5);
        for (int s = 2; s < 48; s++) {
            x.then(0, COMPOSE, CONSTANT, s - 1, false);
        }
        x.complete(0, 0);
        for (int s = 2; s < 48; s++) {
            CHECKS.stage(x, s, VALUE, 5);
        }
    }

    @Says("but one that was made ASYNC, and is no COMPOSE that waits, to the end of the POOL.")
    private static void anAsyncComposeThatWaitsGoesToTheLine() {
        PromiseScopes x = sources(2);
        x.complete(0, 1);
        x.then(0, COMPOSE, ADD, 0, true);
        CHECKS.equal("count(1)", x.count(1), 1);
        CHECKS.equal("work(1)", x.work(1), 1);
        CHECKS.stage(x, 2, PENDING, 0);
        x.complete(1, 9);
        CHECKS.equal("count(1)", x.count(1), 0);
        CHECKS.stage(x, 2, VALUE, 9);
    }

    @Says("work() takes stages out of the POOL's front in the same way, one after the other, "
            + "working off the LINE behind each.")
    private static void theLineIsWorkedOffBehindEachOfThePool() {
        PromiseScopes x = sources(1);
        x.then(0, APPLY, ADD, 1, true);
        x.then(0, APPLY, ADD, 2, true);
        x.then(1, APPLY, ADD, 10, false);
        x.both(2, 3, EITHER, ADD, 0, false);
        x.complete(0, 0);
        CHECKS.equal("work(2)", x.work(2), 2);
        CHECKS.stage(x, 4, VALUE, 11);
    }

    @Says("gets its outcome as said, if it is PENDING still")
    private static void aSettledStageOfThePoolIsTakenAndStays() {
        PromiseScopes x = sources(1);
        x.then(0, APPLY, ADD, 1, true);
        x.then(0, APPLY, ADD, 2, true);
        x.complete(0, 0);
        x.fail(1, 5);
        CHECKS.equal("place of a settled one", x.stage(1, 3), 0);
        CHECKS.equal("work(1)", x.work(1), 1);
        CHECKS.stage(x, 1, FAILURE, 5);
        CHECKS.stage(x, 2, PENDING, 0);
        CHECKS.equal("place of the next", x.stage(2, 3), 0);
    }

    /** Sources 0 and 1, then a stage of each kind 0 .. 8 as the stages 2 .. 10. */
    private static PromiseScopes oneOfEachKind(boolean async) {
        PromiseScopes x = sources(2);
        for (int kind = APPLY; kind <= COMPOSE; kind++) {
            x.then(0, kind, ADD, 0, async);
        }
        x.both(0, 1, COMBINE, ADD, 0, async);
        x.both(0, 1, EITHER, ADD, 0, async);
        x.several(0b11, ALL);
        x.several(0b11, ANY);
        return x;
    }

    @Says("A stage of any kind that is PENDING can be given an outcome by complete, fail and cancel; "
            + "what it would have become counts for nothing then.")
    private static void eachKindCanBeGivenAnOutcome() {
        for (int how = 0; how < 3; how++) {
            for (boolean async : new boolean[] {false, true}) {
                PromiseScopes x = oneOfEachKind(async);
                for (int s = 10; s >= 0; s--) {
                    boolean given = how == 0 ? x.complete(s, -1) : how == 1 ? x.fail(s, 9) : x.cancel(s);
                    CHECKS.yes("an outcome for " + s, given);
                }
                CHECKS.equal("count(1)", x.count(1), 0);
                CHECKS.equal("work(60)", x.work(60), 0);
                for (int s = 0; s <= 10; s++) {
                    CHECKS.stage(x, s, how == 0 ? VALUE : FAILURE, how == 0 ? -1 : how == 1 ? 9 : 0);
                    CHECKS.equal("kind of " + s, x.stage(s, 2), s < 2 ? SOURCE : s - 2);
                }
            }
        }
    }

    @Says("what it would have become counts for nothing then.")
    private static void aWaitingComposeCanBeGivenAnOutcome() {
        PromiseScopes x = sources(2);
        x.complete(0, 1);
        x.then(0, COMPOSE, ADD, 0, false);
        CHECKS.yes("fail", x.fail(2, 1));
        x.complete(1, 5);
        CHECKS.stage(x, 2, FAILURE, 1);
    }

    // ---- promises 1 to 5

    @Says("Nothing made yet.")
    private static void aNewObjectHasNothing() {
        PromiseScopes x = new PromiseScopes();
        for (int which = 0; which <= 4; which++) {
            CHECKS.equal("count(" + which + ")", x.count(which), 0);
        }
        CHECKS.equal("stage(0, 0)", x.stage(0, 0), -1);
        CHECKS.equal("scope(0, 0)", x.scope(0, 0), -1);
        CHECKS.equal("task(0, 0)", x.task(0, 0), -1);
    }

    @Says("A new stage of kind 0 .. 4 on stage s, with a function 0 .. 5 and its number: its number.")
    private static void thenOfEachKindAndFunction() {
        PromiseScopes x = sources(1);
        int due = 1;
        for (int kind = APPLY; kind <= COMPOSE; kind++) {
            for (int function = ADD; function <= DIVIDE; function++) {
                CHECKS.equal("then", x.then(due - 1, kind, function, due % 2 == 0 ? MAX : MIN, due % 3 == 0), due);
                CHECKS.equal("its kind", x.stage(due, 2), kind);
                CHECKS.stage(x, due, PENDING, 0);
                due++;
            }
        }
    }

    @Says("A new stage of kind 5 or 6 on the stages s and t: its number.")
    private static void bothOfEachKindAndFunction() {
        PromiseScopes x = sources(1);
        int due = 1;
        for (int kind = COMBINE; kind <= EITHER; kind++) {
            for (int function = ADD; function <= DIVIDE; function++) {
                CHECKS.equal("both", x.both(due - 1, 0, kind, function, MIN, due % 3 == 0), due);
                CHECKS.equal("its kind", x.stage(due, 2), kind);
                CHECKS.stage(x, due, PENDING, 0);
                due++;
            }
        }
    }

    // ---- promises 6 to 12

    @Says("Stage s becomes the value v: true")
    private static void completeOfTheFirstAndTheLast() {
        PromiseScopes x = sources(48);
        int[] stages = {0, 1, 46, 47};
        int[] values = {MIN, -1, 0, MAX};
        for (int i = 0; i < stages.length; i++) {
            CHECKS.yes("complete", x.complete(stages[i], values[i]));
            CHECKS.stage(x, stages[i], VALUE, values[i]);
            CHECKS.equal("join", x.join(stages[i]), values[i]);
        }
    }

    @Says("Stage s becomes the failure e, 1 .. 9, not wrapped: true")
    private static void failWithTheLeastAndTheGreatest() {
        PromiseScopes x = sources(48);
        CHECKS.yes("fail", x.fail(0, 1));
        CHECKS.yes("fail", x.fail(47, 9));
        CHECKS.stage(x, 0, FAILURE, 1);
        CHECKS.stage(x, 47, FAILURE, 9);
    }

    @Says("Stage s becomes the failure 0, not wrapped: true")
    private static void cancelOfTheFirstAndTheLast() {
        PromiseScopes x = sources(48);
        CHECKS.yes("cancel", x.cancel(0));
        CHECKS.yes("cancel", x.cancel(47));
        CHECKS.stage(x, 0, FAILURE, 0);
        CHECKS.stage(x, 47, FAILURE, 0);
    }

    /** One source with a value, and 47 stages in the pool. */
    private static PromiseScopes withAFullPool() {
        PromiseScopes x = sources(1);
        x.complete(0, 0);
        for (int s = 1; s < 48; s++) {
            x.then(0, APPLY, ADD, s, true);
        }
        return x;
    }

    @Says("Up to n stages, 0 .. 60, are taken from the pool's front, one after the other: how many.")
    private static void workUpToN() {
        int[] numbers = {0, 1, 46, 47, 48, 59, 60};
        for (int n : numbers) {
            PromiseScopes x = withAFullPool();
            int due = Math.min(n, 47);
            CHECKS.equal("work(" + n + ")", x.work(n), due);
            CHECKS.equal("count(1)", x.count(1), 47 - due);
            for (int s = 1; s < 48; s++) {
                CHECKS.equal("state of " + s, x.stage(s, 0), s <= due ? VALUE : PENDING);
                CHECKS.equal("place of " + s, x.stage(s, 3), s <= due ? -1 : s - due - 1);
            }
        }
    }

    @Says("(A value can be -1, too.)")
    private static void aValueCanBeNone() {
        PromiseScopes x = sources(1);
        x.complete(0, -1);
        CHECKS.equal("stage(0, 1)", x.stage(0, 1), -1);
        CHECKS.equal("stage(0, 0)", x.stage(0, 0), VALUE);
        CHECKS.equal("join(0)", x.join(0), -1);
    }

    @Says("1: the value or the failure (0 if PENDING)")
    private static void theContentOfAPendingStage() {
        PromiseScopes x = sources(1);
        x.then(0, APPLY, CONSTANT, 5, true);
        CHECKS.equal("stage(0, 1)", x.stage(0, 1), 0);
        CHECKS.equal("stage(1, 1)", x.stage(1, 1), 0);
        x.complete(0, 3);
        CHECKS.equal("stage(1, 1) in the pool", x.stage(1, 1), 0);
        x.then(0, COMPOSE, CONSTANT, 2, false);
        CHECKS.equal("stage(2, 1) of one that waits", x.stage(2, 1), 0);
    }

    @Says("3: the place at which it stands in the pool (from 0), NONE if it does not.")
    private static void placesInThePool() {
        PromiseScopes x = withAFullPool();
        CHECKS.equal("place of a source", x.stage(0, 3), -1);
        CHECKS.equal("place of the first", x.stage(1, 3), 0);
        CHECKS.equal("place of the last", x.stage(47, 3), 46);
        x.work(46);
        CHECKS.equal("place of one taken", x.stage(46, 3), -1);
        CHECKS.equal("place of the last", x.stage(47, 3), 0);
        x.work(1);
        CHECKS.equal("place of the last", x.stage(47, 3), -1);
    }

    @Says("How many stages there are, stand in the pool, scopes, tasks there are, and the time: which 0 .. 4")
    private static void countsOfAFullObject() {
        PromiseScopes x = new PromiseScopes();
        for (int p = 0; p < 12; p++) {
            x.open(p - 1, 0, -1);
        }
        x.complete(0, 1);
        for (int s = 12; s < 48; s++) {
            x.then(0, APPLY, ADD, s, true);
        }
        for (int t = 0; t < 30; t++) {
            x.fork(t % 12, 50, ADD, 0);
        }
        x.tick(60);
        int[] due = {48, 36, 12, 30, 60};
        for (int which = 0; which < due.length; which++) {
            CHECKS.equal("count(" + which + ")", x.count(which), due[which]);
        }
    }
}
