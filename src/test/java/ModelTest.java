import java.util.ArrayDeque;
import java.util.Deque;
import java.util.Random;
import java.util.function.IntSupplier;
import java.util.function.Supplier;

/** Runs of calls, from fixed seeds, on the program and on the Model: each answer must be the same. */
public final class ModelTest {
    private static final int RUNS = 3000;
    /** What an object answers behind its 512th call is free. */
    private static final int MOST_CALLS = 512;
    private static final Checks CHECKS = new Checks();

    private final Random random;
    private final PromiseScopes x = new PromiseScopes();
    private final Model model = new Model();
    private final Deque<String> told = new ArrayDeque<>();
    /** Of 100 calls so many are on scopes; the rest on stages. */
    private final int onScopes;
    private final int builtNotSettled;
    private int calls;
    private boolean differed;

    private ModelTest(int seed) {
        random = new Random(seed);
        onScopes = random.nextInt(101);
        builtNotSettled = random.nextInt(101);
    }

    public static void main(String[] args) {
        for (int seed = 1; seed <= RUNS; seed++) {
            new ModelTest(seed).run(seed);
        }
        CHECKS.end();
    }

    private void run(int seed) {
        int changes = 10 + random.nextInt(190);
        for (int i = 0; i < changes && !differed; i++) {
            change();
            if (random.nextInt(4) == 0) {
                ask();
            }
        }
        while (calls < MOST_CALLS && !differed) {
            ask();
        }
        CHECKS.same("run " + seed + " of " + String.join("; ", told), differed ? "differs" : "agrees", "agrees");
    }

    private void compare(String call, IntSupplier asked, Supplier<String> due) {
        if (calls == MOST_CALLS) {
            return;
        }
        calls++;
        String got = Checks.outcomeOf(asked);
        String want = due.get();
        told.addLast(call + " = " + got);
        if (told.size() > 12) {
            told.removeFirst();
        }
        if (!got.equals(want)) {
            told.addLast("due is " + want);
            differed = true;
        }
    }

    private void change() {
        if (random.nextInt(100) < onScopes) {
            changeScopes();
        } else if (random.nextInt(100) < builtNotSettled) {
            build();
        } else {
            settle();
        }
    }

    private void build() {
        int s = aStage();
        int t = aStage();
        int function = aNumber(0, 5);
        int a = aParameter();
        boolean async = random.nextInt(3) == 0;
        switch (random.nextInt(7)) {
            case 0 -> compare("source()", () -> x.source(), () -> model.source());
            case 1, 2 -> {
                int kind = aNumber(0, 4);
                compare("then(" + s + ", " + kind + ", " + function + ", " + a + ", " + async + ")",
                        () -> x.then(s, kind, function, a, async), () -> model.then(s, kind, function, a, async));
            }
            case 3 -> {
                int toAStage = 4;
                compare("then(" + s + ", 4, " + toAStage + ", " + t + ", " + async + ")",
                        () -> x.then(s, 4, toAStage, t, async), () -> model.then(s, 4, toAStage, t, async));
            }
            case 4, 5 -> {
                int kind = aNumber(5, 6);
                compare("both(" + s + ", " + t + ", " + kind + ", " + function + ", " + a + ", " + async + ")",
                        () -> x.both(s, t, kind, function, a, async), () -> model.both(s, t, kind, function, a, async));
            }
            default -> {
                int kind = aNumber(7, 8);
                long set = aSet();
                compare("several(" + set + ", " + kind + ")",
                        () -> x.several(set, kind), () -> model.several(set, kind));
            }
        }
    }

    private void settle() {
        int s = aStage();
        switch (random.nextInt(8)) {
            case 0 -> compare("source()", () -> x.source(), () -> model.source());
            case 1, 2, 3 -> {
                int v = aParameter();
                compare("complete(" + s + ", " + v + ")", () -> x.complete(s, v) ? 1 : 0, () -> model.complete(s, v));
            }
            case 4 -> {
                int e = aNumber(1, 9);
                compare("fail(" + s + ", " + e + ")", () -> x.fail(s, e) ? 1 : 0, () -> model.fail(s, e));
            }
            case 5 -> compare("cancel(" + s + ")", () -> x.cancel(s) ? 1 : 0, () -> model.cancel(s));
            default -> {
                int n = random.nextInt(3) == 0 ? aNumber(0, 60) : random.nextInt(4);
                compare("work(" + n + ")", () -> x.work(n), () -> model.work(n));
            }
        }
    }

    private void changeScopes() {
        int scope = aNumber(0, madeOf(2) - 1);
        switch (random.nextInt(12)) {
            case 0, 1 -> {
                int parent = random.nextInt(3) == 0 ? -1 : scope;
                int policy = aNumber(0, 2);
                int deadline = random.nextInt(2) == 0 ? -1 - random.nextInt(3) : random.nextInt(40);
                compare("open(" + parent + ", " + policy + ", " + deadline + ")",
                        () -> x.open(parent, policy, deadline), () -> model.open(parent, policy, deadline));
            }
            case 2 -> {
                int key = random.nextInt(2) == 0 ? 0 : aNumber(0, 3);
                int v = aParameter();
                compare("bind(" + scope + ", " + key + ", " + v + ")",
                        () -> x.bind(scope, key, v) ? 1 : 0, () -> model.bind(scope, key, v));
            }
            case 3, 4, 5, 6 -> {
                int cost = random.nextInt(3) == 0 ? aNumber(1, 50) : 1 + random.nextInt(5);
                int function = aNumber(0, 5);
                int a = aParameter();
                compare("fork(" + scope + ", " + cost + ", " + function + ", " + a + ")",
                        () -> x.fork(scope, cost, function, a), () -> model.fork(scope, cost, function, a));
            }
            case 7, 8 -> compare("joinScope(" + scope + ")",
                    () -> x.joinScope(scope) ? 1 : 0, () -> model.joinScope(scope));
            case 9 -> {
                if (random.nextInt(3) == 0) {
                    compare("cancelScope(" + scope + ")",
                            () -> x.cancelScope(scope) ? 1 : 0, () -> model.cancelScope(scope));
                }
            }
            default -> {
                int n = random.nextInt(12) == 0 ? aNumber(0, 60) : random.nextInt(4);
                compare("tick(" + n + ")", () -> x.tick(n), () -> model.tick(n));
            }
        }
    }

    private void ask() {
        switch (random.nextInt(8)) {
            case 0, 1, 2 -> {
                int s = aStage();
                int w = aNumber(0, 3);
                compare("stage(" + s + ", " + w + ")", () -> x.stage(s, w), () -> model.stage(s, w));
            }
            case 3 -> {
                int s = aStage();
                compare("join(" + s + ")", () -> x.join(s), () -> model.join(s));
            }
            case 4 -> {
                int which = aNumber(0, 4);
                compare("count(" + which + ")", () -> x.count(which), () -> model.count(which));
            }
            case 5 -> {
                int scope = aNumber(0, madeOf(2) - 1);
                int w = aNumber(0, 5);
                compare("scope(" + scope + ", " + w + ")", () -> x.scope(scope, w), () -> model.scope(scope, w));
            }
            case 6 -> {
                int scope = aNumber(0, madeOf(2) - 1);
                int key = aNumber(0, 3);
                compare("bound(" + scope + ", " + key + ")", () -> x.bound(scope, key), () -> model.bound(scope, key));
            }
            default -> {
                int task = aNumber(0, madeOf(3) - 1);
                int w = aNumber(0, 3);
                compare("task(" + task + ", " + w + ")", () -> x.task(task, w), () -> model.task(task, w));
            }
        }
    }

    /** Asked of the model, as the program's calls are counted. */
    private int madeOf(int which) {
        return Integer.parseInt(model.count(which));
    }

    /** Mostly from least to most, now and then just beside it or far away. */
    private int aNumber(int least, int most) {
        int beside = random.nextInt(60);
        if (beside == 0 || most < least) {
            return least - 1;
        }
        if (beside == 1) {
            return most + 1;
        }
        if (beside == 2 && random.nextInt(4) == 0) {
            return random.nextInt();
        }
        return least + random.nextInt(most - least + 1);
    }

    private int aStage() {
        return aNumber(0, madeOf(0) - 1);
    }

    private int aParameter() {
        return switch (random.nextInt(12)) {
            case 0 -> random.nextInt();
            case 1 -> Integer.MIN_VALUE;
            case 2 -> -1;
            case 3 -> 0;
            default -> random.nextInt(60) - 12;
        };
    }

    private long aSet() {
        if (random.nextInt(30) == 0) {
            return random.nextLong();
        }
        long set = 0;
        for (int i = random.nextInt(5); i >= 0; i--) {
            set |= 1L << aStage();
        }
        return set;
    }
}
