import java.util.ArrayDeque;
import java.util.ArrayList;
import java.util.Comparator;
import java.util.Deque;
import java.util.HashMap;
import java.util.List;
import java.util.Map;
import java.util.Optional;
import java.util.stream.IntStream;
import java.util.stream.Stream;

/** A second reading of the document, told in its own words and without regard to speed; it answers as texts. */
final class Model {
    private static final String FALSE = "0";
    private static final String TRUE = "1";
    private static final String NONE = "-1";
    private static final String ILLEGAL_ARGUMENT = "throws.IllegalArgumentException";
    private static final String ILLEGAL_STATE = "throws.IllegalStateException";
    private static final String UNSUPPORTED = "throws.UnsupportedOperationException";

    private record Outcome(boolean isValue, int number, boolean wrapped) {
        static Outcome value(int v) {
            return new Outcome(true, v, false);
        }

        static Outcome failure(int e) {
            return new Outcome(false, e, false);
        }

        Outcome onItsWay() {
            return isValue ? this : new Outcome(false, number, true);
        }
    }

    private record Build(int kind, List<Integer> inputs, int function, int a, boolean async) {
    }

    private record Job(int scope, int cost, int function, int a, int x) {
    }

    private final List<Build> stages = new ArrayList<>();
    private final Map<Integer, Outcome> outcomes = new HashMap<>();
    private final List<Integer> settled = new ArrayList<>();
    private final Map<Integer, Integer> waits = new HashMap<>();
    private final Deque<Integer> line = new ArrayDeque<>();
    private final Deque<Integer> pool = new ArrayDeque<>();

    private final List<Integer> parents = new ArrayList<>();
    private final List<Integer> policies = new ArrayList<>();
    private final List<Integer> deadlines = new ArrayList<>();
    private final List<Integer> results = new ArrayList<>();
    private final List<Integer> phases = new ArrayList<>();
    private final List<Boolean> stopped = new ArrayList<>();
    private final List<Boolean> late = new ArrayList<>();
    private final List<Map<Integer, Integer>> bindings = new ArrayList<>();

    private final List<Job> jobs = new ArrayList<>();
    private final List<Integer> taskStates = new ArrayList<>();
    private final List<Integer> worked = new ArrayList<>();
    private final List<Integer> ended = new ArrayList<>();
    private int time;

    // ---- functions and kinds

    private static Outcome call(int function, int a, int x) {
        int e = 1 + (a & 7);
        return switch (function) {
            case 0 -> Outcome.value(x + a);
            case 1 -> Outcome.value(x * a);
            case 2 -> x == a ? Outcome.failure(e).onItsWay() : Outcome.value(x);
            case 3 -> Outcome.failure(e).onItsWay();
            case 4 -> Outcome.value(a);
            default -> a == 0 ? Outcome.failure(9).onItsWay() : Outcome.value(x / a);
        };
    }

    private static Outcome apply(Build build, Outcome of) {
        return of.isValue() ? call(build.function(), build.a(), of.number()) : of.onItsWay();
    }

    /** Empty for a COMPOSE that begins to wait. */
    private Optional<Outcome> outcomeOf(int s) {
        Build build = stages.get(s);
        Outcome first = outcomes.get(build.inputs().get(0));
        Outcome earliest = settled.stream().filter(build.inputs()::contains).findFirst().map(outcomes::get)
                .orElseThrow();
        return switch (build.kind()) {
            case 0 -> Optional.of(apply(build, first));
            case 1 -> Optional.of(first.isValue() ? first : call(build.function(), build.a(), first.number()));
            case 2 -> Optional.of(
                    call(build.function(), build.a(), first.isValue() ? first.number() : -1 - first.number()));
            case 3 -> Optional.of(apply(build, first).isValue() ? first : apply(build, first));
            case 4 -> composed(s, build, first);
            case 5 -> Optional.of(combined(build));
            case 6 -> Optional.of(apply(build, earliest));
            case 7 -> Optional.of(summed(build));
            default -> Optional.of(earliest.onItsWay());
        };
    }

    private Outcome summed(Build build) {
        List<Outcome> all = build.inputs().stream().sorted().map(outcomes::get).toList();
        return all.stream().filter(o -> !o.isValue()).findFirst().map(Outcome::onItsWay)
                .orElseGet(() -> Outcome.value(all.stream().mapToInt(Outcome::number).sum()));
    }

    private Outcome combined(Build build) {
        Outcome x = outcomes.get(build.inputs().get(0));
        Outcome y = outcomes.get(build.inputs().get(1));
        return Stream.of(x, y).filter(o -> !o.isValue()).findFirst().map(Outcome::onItsWay)
                .orElseGet(() -> call(build.function(), build.a(), x.number() + y.number()));
    }

    private Optional<Outcome> composed(int s, Build build, Outcome first) {
        if (waits.containsKey(s)) {
            return Optional.of(outcomes.get(waits.get(s)).onItsWay());
        }
        Outcome y = apply(build, first);
        if (!y.isValue()) {
            return Optional.of(y);
        }
        if (y.number() < 0 || y.number() >= stages.size()) {
            return Optional.of(Outcome.failure(8).onItsWay());
        }
        waits.put(s, y.number());
        return Optional.empty();
    }

    // ---- the LINE and the POOL

    private boolean able(int s) {
        Build build = stages.get(s);
        if (outcomes.containsKey(s) || build.kind() == 9) {
            return false;
        }
        if (waits.containsKey(s)) {
            return outcomes.containsKey(waits.get(s));
        }
        return build.kind() == 6 || build.kind() == 8
                ? build.inputs().stream().anyMatch(outcomes::containsKey)
                : build.inputs().stream().allMatch(outcomes::containsKey);
    }

    private void enqueue() {
        IntStream.range(0, stages.size()).filter(s -> able(s) && !line.contains(s) && !pool.contains(s))
                .forEach(s -> (stages.get(s).async() && !waits.containsKey(s) ? pool : line).addLast(s));
    }

    private void give(int s, Outcome outcome) {
        outcomes.put(s, outcome);
        settled.add(s);
        enqueue();
    }

    private void step(int s) {
        if (!outcomes.containsKey(s)) {
            outcomeOf(s).ifPresentOrElse(outcome -> give(s, outcome), this::enqueue);
        }
    }

    private void workOff() {
        while (!line.isEmpty()) {
            step(line.removeFirst());
        }
    }

    private String make(boolean fit, Build build) {
        if (!fit) {
            return ILLEGAL_ARGUMENT;
        }
        if (stages.size() == 48) {
            return ILLEGAL_STATE;
        }
        stages.add(build);
        enqueue();
        workOff();
        return text(stages.size() - 1);
    }

    private static boolean within(int n, int least, int most) {
        return least <= n && n <= most;
    }

    private static String text(int n) {
        return Integer.toString(n);
    }

    private boolean isStage(int s) {
        return within(s, 0, stages.size() - 1);
    }

    // ---- the calls on stages

    String source() {
        return make(true, new Build(9, List.of(), 0, 0, false));
    }

    String then(int s, int kind, int function, int a, boolean async) {
        boolean fit = isStage(s) && within(kind, 0, 4) && within(function, 0, 5);
        return make(fit, new Build(kind, List.of(s), function, a, async));
    }

    String both(int s, int t, int kind, int function, int a, boolean async) {
        boolean fit = isStage(s) && isStage(t) && within(kind, 5, 6) && within(function, 0, 5);
        return make(fit, new Build(kind, List.of(s, t), function, a, async));
    }

    String several(long set, int kind) {
        List<Integer> inputs = IntStream.range(0, 64).filter(i -> (set & 1L << i) != 0).boxed().toList();
        boolean fit = !inputs.isEmpty() && inputs.stream().allMatch(this::isStage) && within(kind, 7, 8);
        return make(fit, new Build(kind, inputs, 0, 0, false));
    }

    private String settle(int s, boolean fit, Outcome outcome) {
        if (!fit || !isStage(s) || outcomes.containsKey(s)) {
            return FALSE;
        }
        give(s, outcome);
        workOff();
        return TRUE;
    }

    String complete(int s, int v) {
        return settle(s, true, Outcome.value(v));
    }

    String fail(int s, int e) {
        return settle(s, within(e, 1, 9), Outcome.failure(e));
    }

    String cancel(int s) {
        return settle(s, true, Outcome.failure(0));
    }

    String work(int n) {
        if (!within(n, 0, 60)) {
            return NONE;
        }
        int done = 0;
        for (; done < n && !pool.isEmpty(); done++) {
            step(pool.removeFirst());
            workOff();
        }
        return text(done);
    }

    String join(int s) {
        if (!isStage(s)) {
            return ILLEGAL_ARGUMENT;
        }
        Outcome outcome = outcomes.get(s);
        return outcome == null ? UNSUPPORTED : outcome.isValue() ? text(outcome.number()) : ILLEGAL_STATE;
    }

    String stage(int s, int w) {
        if (!isStage(s) || !within(w, 0, 3)) {
            return NONE;
        }
        Optional<Outcome> outcome = Optional.ofNullable(outcomes.get(s));
        return text(switch (w) {
            case 0 -> outcome.map(o -> o.isValue() ? 1 : o.wrapped() ? 3 : 2).orElse(0);
            case 1 -> outcome.map(Outcome::number).orElse(0);
            case 2 -> stages.get(s).kind();
            default -> new ArrayList<>(pool).indexOf(s);
        });
    }

    String count(int which) {
        int[] counts = {stages.size(), pool.size(), parents.size(), jobs.size(), time};
        return within(which, 0, 4) ? text(counts[which]) : NONE;
    }

    // ---- scopes and tasks

    private boolean isScope(int p) {
        return within(p, 0, parents.size() - 1);
    }

    private boolean isOpen(int p) {
        return isScope(p) && phases.get(p) == 0;
    }

    private boolean below(int p, int other) {
        return parents.get(p) != -1 && (parents.get(p) == other || below(parents.get(p), other));
    }

    private IntStream scopesBelow(int p) {
        return IntStream.range(0, parents.size()).filter(q -> below(q, p));
    }

    private IntStream tasksOf(int p, int state) {
        return IntStream.range(0, jobs.size()).filter(t -> jobs.get(t).scope() == p && taskStates.get(t) == state);
    }

    private int effective(int p) {
        int own = deadlines.get(p);
        int above = parents.get(p) == -1 ? -1 : effective(parents.get(p));
        return IntStream.of(own, above).filter(d -> d >= 0).min().orElse(-1);
    }

    private Optional<Integer> valueOf(int p, int key) {
        if (p == -1) {
            return Optional.empty();
        }
        return Optional.ofNullable(bindings.get(p).get(key)).or(() -> valueOf(parents.get(p), key));
    }

    private void stop(int p) {
        stopped.set(p, true);
        tasksOf(p, 0).forEach(t -> taskStates.set(t, 3));
        scopesBelow(p).filter(q -> parents.get(q) == p && phases.get(q) != 2).forEach(this::stop);
    }

    private Outcome end(int t) {
        return call(jobs.get(t).function(), jobs.get(t).a(), jobs.get(t).x());
    }

    private Outcome resultOf(int p) {
        if (late.get(p)) {
            return Outcome.failure(7);
        }
        Comparator<Integer> byEnd = Comparator.comparing(ended::indexOf);
        Optional<Integer> firstDone = tasksOf(p, 1).boxed().min(byEnd);
        if (policies.get(p) == 2 && firstDone.isPresent()) {
            return end(firstDone.get());
        }
        if (policies.get(p) != 2 && tasksOf(p, 2).count() + tasksOf(p, 3).count() == 0) {
            return Outcome.value(tasksOf(p, 1).map(t -> end(t).number()).sum());
        }
        return Outcome.failure(tasksOf(p, 2).boxed().min(byEnd).map(t -> end(t).number()).orElse(0));
    }

    private void close() {
        for (int p = parents.size() - 1; p >= 0; p--) {
            boolean waiting = tasksOf(p, 0).count() > 0 || scopesBelow(p).anyMatch(q -> phases.get(q) != 2);
            if (phases.get(p) == 1 && !waiting) {
                phases.set(p, 2);
                if (!outcomes.containsKey(results.get(p))) {
                    give(results.get(p), resultOf(p));
                }
            }
        }
        workOff();
    }

    private void workTask(int t) {
        worked.set(t, worked.get(t) + 1);
        if (worked.get(t) != jobs.get(t).cost()) {
            return;
        }
        boolean done = end(t).isValue();
        int policy = policies.get(jobs.get(t).scope());
        taskStates.set(t, done ? 1 : 2);
        ended.add(t);
        if (policy == 1 && !done || policy == 2 && done) {
            stop(jobs.get(t).scope());
        }
    }

    // ---- the calls on scopes

    String open(int parent, int policy, int deadline) {
        if (parent != -1 && !isOpen(parent) || !within(policy, 0, 2)) {
            return ILLEGAL_ARGUMENT;
        }
        if (parents.size() == 12 || stages.size() == 48) {
            return ILLEGAL_STATE;
        }
        source();
        results.add(stages.size() - 1);
        parents.add(parent);
        policies.add(policy);
        deadlines.add(deadline);
        phases.add(0);
        stopped.add(false);
        late.add(false);
        bindings.add(new HashMap<>());
        return text(parents.size() - 1);
    }

    String bind(int p, int key, int v) {
        if (!isOpen(p) || !within(key, 0, 3)) {
            return FALSE;
        }
        bindings.get(p).put(key, v);
        return TRUE;
    }

    String fork(int p, int cost, int function, int a) {
        if (!isOpen(p) || !within(cost, 1, 50) || !within(function, 0, 5)) {
            return ILLEGAL_ARGUMENT;
        }
        if (jobs.size() == 30) {
            return ILLEGAL_STATE;
        }
        jobs.add(new Job(p, cost, function, a, valueOf(p, 0).orElse(0)));
        taskStates.add(stopped.get(p) ? 3 : 0);
        worked.add(0);
        return text(jobs.size() - 1);
    }

    String joinScope(int p) {
        if (!isOpen(p) || scopesBelow(p).anyMatch(this::isOpen)) {
            return FALSE;
        }
        phases.set(p, 1);
        close();
        return TRUE;
    }

    String cancelScope(int p) {
        if (!isScope(p) || phases.get(p) == 2) {
            return FALSE;
        }
        stop(p);
        close();
        return TRUE;
    }

    String tick(int n) {
        if (!within(n, 0, 60)) {
            return NONE;
        }
        int before = ended.size();
        for (int i = 0; i < n; i++) {
            time++;
            for (int p = 0; p < parents.size(); p++) {
                if (phases.get(p) != 2 && within(effective(p), 0, time)) {
                    stop(p);
                    late.set(p, true);
                }
            }
            IntStream.range(0, jobs.size()).filter(t -> taskStates.get(t) == 0).forEach(this::workTask);
            close();
        }
        return text(ended.size() - before);
    }

    String scope(int p, int w) {
        if (!isScope(p) || !within(w, 0, 5)) {
            return NONE;
        }
        return text(switch (w) {
            case 0 -> phases.get(p);
            case 1 -> results.get(p);
            case 2 -> effective(p);
            case 3 -> (int) tasksOf(p, 0).count();
            case 4 -> (stopped.get(p) ? 1 : 0) + (late.get(p) ? 2 : 0);
            default -> (int) tasksOf(p, 2).count();
        });
    }

    String bound(int p, int key) {
        return isScope(p) && within(key, 0, 3) ? text(valueOf(p, key).orElse(0)) : ILLEGAL_ARGUMENT;
    }

    String task(int t, int w) {
        if (!within(t, 0, jobs.size() - 1) || !within(w, 0, 3)) {
            return NONE;
        }
        return text(switch (w) {
            case 0 -> taskStates.get(t);
            case 1 -> jobs.get(t).scope();
            case 2 -> worked.get(t);
            default -> within(taskStates.get(t), 1, 2) ? end(t).number() : 0;
        });
    }
}
