/** Promises that are built on one another, and tasks in scopes that own them and end as promises, too. */
public final class PromiseScopes {
    public static final int NONE = -1;

    private static final int MOST_STEPS_A_CALL = 60;

    private final StageGraph graph;
    private final ScopeTree tree;

    public PromiseScopes() {
        graph = new StageGraph();
        tree = new ScopeTree();
    }

    public int source() throws IllegalStateException {
        if (graph.isFull()) {
            throw new IllegalStateException("there are 48 stages");
        }
        return graph.addSource().number;
    }

    public int then(int s, int kind, int function, int a, boolean async)
            throws IllegalArgumentException, IllegalStateException {
        if (!graph.has(s) || kind < Stage.APPLY || kind > Stage.COMPOSE || !Functions.has(function)) {
            throw new IllegalArgumentException("no such stage, kind or function");
        }
        if (graph.isFull()) {
            throw new IllegalStateException("there are 48 stages");
        }
        Stage built = graph.addStage(graph.inputsOf(s), kind, function, a, async);
        graph.workOffLine();
        return built.number;
    }

    public int both(int s, int t, int kind, int function, int a, boolean async)
            throws IllegalArgumentException, IllegalStateException {
        if (!graph.has(s) || !graph.has(t) || kind < Stage.COMBINE || kind > Stage.EITHER
                || !Functions.has(function)) {
            throw new IllegalArgumentException("no such stage, kind or function");
        }
        if (graph.isFull()) {
            throw new IllegalStateException("there are 48 stages");
        }
        Stage built = graph.addStage(graph.inputsOf(s, t), kind, function, a, async);
        graph.workOffLine();
        return built.number;
    }

    public int several(long set, int kind) throws IllegalArgumentException, IllegalStateException {
        if (!graph.hasAll(set) || kind < Stage.ALL || kind > Stage.ANY) {
            throw new IllegalArgumentException("no such stages or kind");
        }
        if (graph.isFull()) {
            throw new IllegalStateException("there are 48 stages");
        }
        Stage built = graph.addStage(graph.inputsOfSet(set), kind, Functions.NO_FUNCTION, 0, false);
        graph.workOffLine();
        return built.number;
    }

    public boolean complete(int s, int v) {
        boolean settled = graph.settleIfPending(s, Stage.VALUE, v);
        graph.workOffLine();
        return settled;
    }

    public boolean fail(int s, int e) {
        boolean settled = e >= 1 && e <= 9 && graph.settleIfPending(s, Stage.FAILURE, e);
        graph.workOffLine();
        return settled;
    }

    public boolean cancel(int s) {
        boolean settled = graph.settleIfPending(s, Stage.FAILURE, 0);
        graph.workOffLine();
        return settled;
    }

    public int work(int n) {
        if (!isStepCount(n)) {
            return NONE;
        }
        int taken = 0;
        while (taken < n && graph.advancePool()) {
            graph.workOffLine();
            taken++;
        }
        return taken;
    }

    public int join(int s) throws IllegalArgumentException, UnsupportedOperationException, IllegalStateException {
        Stage found = graph.find(s);
        if (found == null) {
            throw new IllegalArgumentException("no such stage");
        }
        if (found.state == Stage.PENDING) {
            throw new UnsupportedOperationException("the stage is pending");
        }
        if (found.state != Stage.VALUE) {
            throw new IllegalStateException("the stage failed");
        }
        return found.content;
    }

    public int stage(int s, int w) {
        Stage found = graph.find(s);
        if (found == null) {
            return NONE;
        }
        switch (w) {
            case 0:
                return found.state;
            case 1:
                return found.content;
            case 2:
                return found.kind;
            case 3:
                return graph.placeInPool(found);
            default:
                return NONE;
        }
    }

    public int count(int which) {
        switch (which) {
            case 0:
                return graph.made;
            case 1:
                return graph.poolSize();
            case 2:
                return tree.scopesMade;
            case 3:
                return tree.tasksMade;
            case 4:
                return tree.time;
            default:
                return NONE;
        }
    }

    public int open(int parent, int policy, int deadline) throws IllegalArgumentException, IllegalStateException {
        boolean parentIsFit = parent == NONE || tree.findOpen(parent) != null;
        if (!parentIsFit || policy < Scope.POLICY_ALL || policy > Scope.POLICY_FIRST) {
            throw new IllegalArgumentException("no such open parent or policy");
        }
        if (tree.isFullOfScopes() || graph.isFull()) {
            throw new IllegalStateException("there are 12 scopes or 48 stages");
        }
        return tree.addScope(tree.find(parent), policy, deadline, graph.addSource());
    }

    public boolean bind(int scope, int key, int v) {
        Scope found = tree.findOpen(scope);
        if (found == null || !Scope.isKey(key)) {
            return false;
        }
        found.keep(key, v);
        return true;
    }

    public int fork(int scope, int cost, int function, int a) throws IllegalArgumentException, IllegalStateException {
        Scope found = tree.findOpen(scope);
        if (found == null || !Task.isCost(cost) || !Functions.has(function)) {
            throw new IllegalArgumentException("no such open scope, cost or function");
        }
        if (tree.isFullOfTasks()) {
            throw new IllegalStateException("there are 30 tasks");
        }
        return tree.addTask(found, cost, function, a);
    }

    public boolean joinScope(int scope) {
        Scope found = tree.findOpen(scope);
        if (found == null || tree.hasOpenBelow(found)) {
            return false;
        }
        found.state = Scope.JOINING;
        tree.closeAllThatCan(graph);
        graph.workOffLine();
        return true;
    }

    public boolean cancelScope(int scope) {
        Scope found = tree.find(scope);
        if (found == null || found.state == Scope.CLOSED) {
            return false;
        }
        tree.stop(found);
        tree.closeAllThatCan(graph);
        graph.workOffLine();
        return true;
    }

    public int tick(int n) {
        if (!isStepCount(n)) {
            return NONE;
        }
        int ended = 0;
        for (int i = 0; i < n; i++) {
            ended += tree.passOneTick();
            tree.closeAllThatCan(graph);
            graph.workOffLine();
        }
        return ended;
    }

    public int scope(int scope, int w) {
        Scope found = tree.find(scope);
        if (found == null) {
            return NONE;
        }
        switch (w) {
            case 0:
                return found.state;
            case 1:
                return found.result.number;
            case 2:
                return found.deadline;
            case 3:
                return tree.countTasks(found, Task.RUNNING);
            case 4:
                return (found.stopped ? 1 : 0) + (found.late ? 2 : 0);
            case 5:
                return tree.countTasks(found, Task.FAILED);
            default:
                return NONE;
        }
    }

    public int bound(int scope, int key) throws IllegalArgumentException {
        Scope found = tree.find(scope);
        if (found == null || !Scope.isKey(key)) {
            throw new IllegalArgumentException("no such scope or key");
        }
        return found.lookUp(key);
    }

    public int task(int task, int w) {
        Task found = tree.findTask(task);
        if (found == null) {
            return NONE;
        }
        switch (w) {
            case 0:
                return found.state;
            case 1:
                return found.owner.number;
            case 2:
                return found.worked;
            case 3:
                return found.content;
            default:
                return NONE;
        }
    }

    private static boolean isStepCount(int n) {
        return n >= 0 && n <= MOST_STEPS_A_CALL;
    }

    /** The functions that stages and tasks use; what one throws is a number here, no Java exception. */
    private static final class Functions {
        static final int NO_FUNCTION = -1;

        private static final int ADD = 0;
        private static final int MULTIPLY = 1;
        private static final int REFUSE_ONE = 2;
        private static final int THROW = 3;
        private static final int CONSTANT = 4;
        private static final int DIVIDE = 5;

        private static final int DIVIDED_BY_ZERO = 9;

        static boolean has(int function) {
            return function >= ADD && function <= DIVIDE;
        }

        /** 1 .. 9, or 0 if the function makes a value of x. */
        static int thrownFor(int function, int a, int x) {
            switch (function) {
                case REFUSE_ONE:
                    return x == a ? 1 + (a & 7) : 0;
                case THROW:
                    return 1 + (a & 7);
                case DIVIDE:
                    return a == 0 ? DIVIDED_BY_ZERO : 0;
                default:
                    return 0;
            }
        }

        /** Means nothing where the function throws. */
        static int madeOf(int function, int a, int x) {
            switch (function) {
                case ADD:
                    return x + a;
                case MULTIPLY:
                    return x * a;
                case CONSTANT:
                    return a;
                case DIVIDE:
                    return a == 0 ? 0 : x / a;
                default:
                    return x;
            }
        }
    }

    /** One promise: what it is built on, and what it became. */
    private static final class Stage {
        static final int APPLY = 0;
        static final int EXCEPTIONALLY = 1;
        static final int HANDLE = 2;
        static final int WHEN = 3;
        static final int COMPOSE = 4;
        static final int COMBINE = 5;
        static final int EITHER = 6;
        static final int ALL = 7;
        static final int ANY = 8;
        static final int SOURCE = 9;

        static final int PENDING = 0;
        static final int VALUE = 1;
        static final int FAILURE = 2;
        static final int WRAPPED = 3;

        private static final int NOT_YET = 1 << 30;

        final int number;
        final int kind;
        final int function;
        final int a;
        final boolean async;
        final Stage[] inputs;
        int state;
        int content;
        /** Tells which of two stages had its outcome first. */
        int turn;
        /** What a COMPOSE waits for, null before. */
        Stage awaited;
        /** Whether it stands in the LINE or the POOL. */
        boolean queued;

        Stage(int number, int kind, int function, int a, boolean async, Stage[] inputs) {
            this.number = number;
            this.kind = kind;
            this.function = function;
            this.a = a;
            this.async = async;
            this.inputs = inputs;
            this.state = PENDING;
            this.turn = NOT_YET;
        }

        boolean isAble() {
            if (state != PENDING || kind == SOURCE) {
                return false;
            }
            if (awaited != null) {
                return awaited.state != PENDING;
            }
            int settled = 0;
            for (int i = 0; i < inputs.length; i++) {
                if (inputs[i].state != PENDING) {
                    settled++;
                }
            }
            return kind == EITHER || kind == ANY ? settled > 0 : settled == inputs.length;
        }

        boolean goesToPool() {
            return async && awaited == null;
        }

        void become(int newState, int newContent) {
            state = newState;
            content = newContent;
        }

        /** The same as the other stage, a failure wrapped. */
        void follow(Stage other) {
            become(other.state == VALUE ? VALUE : WRAPPED, other.content);
        }

        void useFunction(int x) {
            int thrown = Functions.thrownFor(function, a, x);
            if (thrown != 0) {
                become(WRAPPED, thrown);
            } else {
                become(VALUE, Functions.madeOf(function, a, x));
            }
        }

        void applyTo(Stage input) {
            if (input.state == VALUE) {
                useFunction(input.content);
            } else {
                follow(input);
            }
        }

        void recoverFrom(Stage input) {
            if (input.state == VALUE) {
                follow(input);
            } else {
                useFunction(input.content);
            }
        }

        void handle(Stage input) {
            useFunction(input.state == VALUE ? input.content : -1 - input.content);
        }

        void watch(Stage input) {
            int thrown = Functions.thrownFor(function, a, input.content);
            if (input.state == VALUE && thrown != 0) {
                become(WRAPPED, thrown);
            } else {
                follow(input);
            }
        }

        void combine(Stage first, Stage second) {
            if (first.state != VALUE) {
                follow(first);
            } else if (second.state != VALUE) {
                follow(second);
            } else {
                useFunction(first.content + second.content);
            }
        }

        void sumUp() {
            int sum = 0;
            for (int i = 0; i < inputs.length; i++) {
                if (inputs[i].state != VALUE) {
                    follow(inputs[i]);
                    return;
                }
                sum += inputs[i].content;
            }
            become(VALUE, sum);
        }

        Stage firstSettledInput() {
            Stage first = inputs[0];
            for (int i = 1; i < inputs.length; i++) {
                if (inputs[i].turn < first.turn) {
                    first = inputs[i];
                }
            }
            return first;
        }
    }

    /** Stages in the order in which they came. */
    private static final class StageQueue {
        /** A stage stands in a queue once at most. */
        private static final int CAPACITY = StageGraph.MOST_STAGES;

        private final Stage[] ring;
        private int front;
        private int size;

        StageQueue() {
            ring = new Stage[CAPACITY];
        }

        int length() {
            return size;
        }

        void append(Stage stage) {
            if (size < CAPACITY) {
                ring[(front + size) % CAPACITY] = stage;
                size++;
            }
        }

        /** Null if the queue is empty. */
        Stage takeFront() {
            if (size == 0) {
                return null;
            }
            Stage taken = ring[front];
            front = (front + 1) % CAPACITY;
            size--;
            return taken;
        }

        int placeOf(Stage stage) {
            for (int i = 0; i < size; i++) {
                if (ring[(front + i) % CAPACITY] == stage) {
                    return i;
                }
            }
            return NONE;
        }
    }

    /** All stages, with the LINE and the POOL of those that are ABLE. */
    private static final class StageGraph {
        static final int MOST_STAGES = 48;

        /** A stage comes into the LINE once, and a COMPOSE that waits once more. */
        private static final int MOST_LINE_STEPS = 2 * MOST_STAGES;
        private static final int NO_SUCH_STAGE = 8;

        private final Stage[] stages;
        private final StageQueue line;
        private final StageQueue pool;
        int made;
        private int settled;

        StageGraph() {
            stages = new Stage[MOST_STAGES];
            line = new StageQueue();
            pool = new StageQueue();
        }

        boolean isFull() {
            return made >= MOST_STAGES;
        }

        boolean has(int s) {
            return s >= 0 && s < made;
        }

        /** False for the empty set, too. */
        boolean hasAll(long set) {
            return set != 0 && set >>> made == 0;
        }

        /** Null if there is none such. */
        Stage find(int s) {
            return has(s) ? stages[s] : null;
        }

        int poolSize() {
            return pool.length();
        }

        int placeInPool(Stage stage) {
            return pool.placeOf(stage);
        }

        Stage[] inputsOf(int s) {
            Stage[] inputs = new Stage[1];
            inputs[0] = stages[s];
            return inputs;
        }

        Stage[] inputsOf(int s, int t) {
            Stage[] inputs = new Stage[2];
            inputs[0] = stages[s];
            inputs[1] = stages[t];
            return inputs;
        }

        Stage[] inputsOfSet(long set) {
            Stage[] inputs = new Stage[Long.bitCount(set)];
            int filled = 0;
            for (int i = 0; i < made; i++) {
                if ((set >>> i & 1) != 0) {
                    inputs[filled] = stages[i];
                    filled++;
                }
            }
            return inputs;
        }

        Stage addSource() {
            return addStage(new Stage[0], Stage.SOURCE, Functions.NO_FUNCTION, 0, false);
        }

        /** Leaves the LINE as it is, as settle does. */
        Stage addStage(Stage[] inputs, int kind, int function, int a, boolean async) {
            Stage added = new Stage(made, kind, function, a, async, inputs);
            stages[made] = added;
            made++;
            queueAllThatAreAble();
            return added;
        }

        /** Leaves the LINE as it is: several stages may be settled before it is worked off. */
        void settle(Stage stage, int state, int content) {
            stage.become(state, content);
            noteTurn(stage);
            queueAllThatAreAble();
        }

        /** False if there is none such or it has an outcome. */
        boolean settleIfPending(int s, int state, int content) {
            Stage found = find(s);
            if (found == null || found.state != Stage.PENDING) {
                return false;
            }
            settle(found, state, content);
            return true;
        }

        private void noteTurn(Stage stage) {
            stage.turn = settled;
            settled++;
        }

        void workOffLine() {
            for (int i = 0; i < MOST_LINE_STEPS; i++) {
                Stage front = line.takeFront();
                if (front == null) {
                    return;
                }
                advance(front);
            }
        }

        /** False if the POOL is empty. */
        boolean advancePool() {
            Stage front = pool.takeFront();
            if (front == null) {
                return false;
            }
            advance(front);
            return true;
        }

        private void advance(Stage stage) {
            stage.queued = false;
            if (stage.state != Stage.PENDING) {
                return;
            }
            decide(stage);
            if (stage.state != Stage.PENDING) {
                noteTurn(stage);
            }
            queueAllThatAreAble();
        }

        private void queueAllThatAreAble() {
            for (int i = 0; i < made; i++) {
                Stage stage = stages[i];
                if (!stage.queued && stage.isAble()) {
                    stage.queued = true;
                    if (stage.goesToPool()) {
                        pool.append(stage);
                    } else {
                        line.append(stage);
                    }
                }
            }
        }

        private void decide(Stage stage) {
            Stage input = stage.inputs[0];
            switch (stage.kind) {
                case Stage.APPLY:
                    stage.applyTo(input);
                    break;
                case Stage.EXCEPTIONALLY:
                    stage.recoverFrom(input);
                    break;
                case Stage.HANDLE:
                    stage.handle(input);
                    break;
                case Stage.WHEN:
                    stage.watch(input);
                    break;
                case Stage.COMPOSE:
                    compose(stage, input);
                    break;
                case Stage.COMBINE:
                    stage.combine(input, stage.inputs[1]);
                    break;
                case Stage.EITHER:
                    stage.applyTo(stage.firstSettledInput());
                    break;
                case Stage.ALL:
                    stage.sumUp();
                    break;
                default:
                    stage.follow(stage.firstSettledInput());
                    break;
            }
        }

        private void compose(Stage stage, Stage input) {
            if (stage.awaited != null) {
                stage.follow(stage.awaited);
                return;
            }
            if (input.state != Stage.VALUE) {
                stage.follow(input);
                return;
            }
            int thrown = Functions.thrownFor(stage.function, stage.a, input.content);
            if (thrown != 0) {
                stage.become(Stage.WRAPPED, thrown);
                return;
            }
            stage.awaited = find(Functions.madeOf(stage.function, stage.a, input.content));
            if (stage.awaited == null) {
                stage.become(Stage.WRAPPED, NO_SUCH_STAGE);
            }
        }
    }

    /** What owns tasks, and at last gives its result an outcome. */
    private static final class Scope {
        static final int POLICY_ALL = 0;
        static final int POLICY_FAIL_FAST = 1;
        static final int POLICY_FIRST = 2;

        static final int OPEN = 0;
        static final int JOINING = 1;
        static final int CLOSED = 2;

        private static final int KEYS = 4;

        final int number;
        final Scope parent;
        final int policy;
        /** The effective one; a parent's never changes, so it is settled when the scope is made. */
        final int deadline;
        final Stage result;
        private final int[] values;
        private final boolean[] binds;
        int state;
        boolean stopped;
        boolean late;

        Scope(int number, Scope parent, int policy, int deadline, Stage result) {
            this.number = number;
            this.parent = parent;
            this.policy = policy;
            this.deadline = deadline;
            this.result = result;
            this.values = new int[KEYS];
            this.binds = new boolean[KEYS];
            this.state = OPEN;
        }

        static boolean isKey(int key) {
            return key >= 0 && key < KEYS;
        }

        /** A deadline below 0 is none. */
        static int effectiveDeadline(Scope parent, int own) {
            if (parent == null || parent.deadline == NONE) {
                return own < 0 ? NONE : own;
            }
            return own < 0 ? parent.deadline : Math.min(own, parent.deadline);
        }

        void keep(int key, int v) {
            values[key] = v;
            binds[key] = true;
        }

        /** 0 if neither the scope nor one above it binds the key. */
        int lookUp(int key) {
            for (Scope at = this; at != null; at = at.parent) {
                if (at.binds[key]) {
                    return at.values[key];
                }
            }
            return 0;
        }

        boolean isBelow(Scope other) {
            for (Scope at = parent; at != null; at = at.parent) {
                if (at == other) {
                    return true;
                }
            }
            return false;
        }

        boolean isPastDeadline(int time) {
            return deadline != NONE && deadline <= time;
        }

        boolean isStoppedBy(Task ended) {
            return policy == POLICY_FAIL_FAST && ended.state == Task.FAILED
                    || policy == POLICY_FIRST && ended.state == Task.DONE;
        }
    }

    /** Work of a certain cost in a scope. */
    private static final class Task {
        static final int RUNNING = 0;
        static final int DONE = 1;
        static final int FAILED = 2;
        static final int CANCELLED = 3;

        private static final int MOST_COST = 50;

        final Scope owner;
        private final int cost;
        private final int function;
        private final int a;
        private final int x;
        int state;
        int worked;
        int content;
        /** Tells which of two tasks ended first. */
        int turn;

        Task(Scope owner, int cost, int function, int a, int x) {
            this.owner = owner;
            this.cost = cost;
            this.function = function;
            this.a = a;
            this.x = x;
            this.state = owner.stopped ? CANCELLED : RUNNING;
        }

        static boolean isCost(int cost) {
            return cost >= 1 && cost <= MOST_COST;
        }

        void workOnce() {
            worked++;
            if (worked < cost) {
                return;
            }
            int thrown = Functions.thrownFor(function, a, x);
            state = thrown != 0 ? FAILED : DONE;
            content = thrown != 0 ? thrown : Functions.madeOf(function, a, x);
        }
    }

    /** All scopes and tasks, and the time. */
    private static final class ScopeTree {
        private static final int MOST_SCOPES = 12;
        private static final int MOST_TASKS = 30;
        private static final int TOO_LATE = 7;

        private final Scope[] scopes;
        private final Task[] tasks;
        int scopesMade;
        int tasksMade;
        int time;
        private int tasksEnded;

        ScopeTree() {
            scopes = new Scope[MOST_SCOPES];
            tasks = new Task[MOST_TASKS];
        }

        boolean isFullOfScopes() {
            return scopesMade >= MOST_SCOPES;
        }

        boolean isFullOfTasks() {
            return tasksMade >= MOST_TASKS;
        }

        /** Null if there is none such. */
        Scope find(int scope) {
            return scope >= 0 && scope < scopesMade ? scopes[scope] : null;
        }

        /** Null if there is none such that is OPEN. */
        Scope findOpen(int scope) {
            Scope found = find(scope);
            return found != null && found.state == Scope.OPEN ? found : null;
        }

        /** Null if there is none such. */
        Task findTask(int task) {
            return task >= 0 && task < tasksMade ? tasks[task] : null;
        }

        int addScope(Scope parent, int policy, int deadline, Stage result) {
            int effective = Scope.effectiveDeadline(parent, deadline);
            scopes[scopesMade] = new Scope(scopesMade, parent, policy, effective, result);
            scopesMade++;
            return scopesMade - 1;
        }

        int addTask(Scope owner, int cost, int function, int a) {
            tasks[tasksMade] = new Task(owner, cost, function, a, owner.lookUp(0));
            tasksMade++;
            return tasksMade - 1;
        }

        int countTasks(Scope owner, int state) {
            int counted = 0;
            for (int i = 0; i < tasksMade; i++) {
                if (tasks[i].owner == owner && tasks[i].state == state) {
                    counted++;
                }
            }
            return counted;
        }

        boolean hasOpenBelow(Scope scope) {
            for (int i = 0; i < scopesMade; i++) {
                if (scopes[i].state == Scope.OPEN && scopes[i].isBelow(scope)) {
                    return true;
                }
            }
            return false;
        }

        private boolean hasUnclosedBelow(Scope scope) {
            for (int i = 0; i < scopesMade; i++) {
                if (scopes[i].state != Scope.CLOSED && scopes[i].isBelow(scope)) {
                    return true;
                }
            }
            return false;
        }

        void stop(Scope scope) {
            for (int i = 0; i < scopesMade; i++) {
                Scope each = scopes[i];
                if (each == scope || each.state != Scope.CLOSED && each.isBelow(scope)) {
                    each.stopped = true;
                    cancelTasks(each);
                }
            }
        }

        private void cancelTasks(Scope owner) {
            for (int i = 0; i < tasksMade; i++) {
                if (tasks[i].owner == owner && tasks[i].state == Task.RUNNING) {
                    tasks[i].state = Task.CANCELLED;
                }
            }
        }

        /** How many tasks ended; closing is the caller's next step. */
        int passOneTick() {
            time++;
            stopLateScopes();
            int ended = 0;
            for (int i = 0; i < tasksMade; i++) {
                if (tasks[i].state == Task.RUNNING) {
                    tasks[i].workOnce();
                    if (tasks[i].state != Task.RUNNING) {
                        noteEnd(tasks[i]);
                        ended++;
                    }
                }
            }
            return ended;
        }

        private void stopLateScopes() {
            for (int i = 0; i < scopesMade; i++) {
                Scope each = scopes[i];
                if (each.state != Scope.CLOSED && each.isPastDeadline(time)) {
                    each.late = true;
                    stop(each);
                }
            }
        }

        private void noteEnd(Task task) {
            task.turn = tasksEnded;
            tasksEnded++;
            if (task.owner.isStoppedBy(task)) {
                stop(task.owner);
            }
        }

        /** A scope's number is above its parent's, so going downwards closes the lower scopes first. */
        void closeAllThatCan(StageGraph graph) {
            for (int i = scopesMade - 1; i >= 0; i--) {
                Scope each = scopes[i];
                if (each.state == Scope.JOINING && countTasks(each, Task.RUNNING) == 0 && !hasUnclosedBelow(each)) {
                    each.state = Scope.CLOSED;
                    giveResult(each, graph);
                }
            }
        }

        private void giveResult(Scope scope, StageGraph graph) {
            if (scope.result.state != Stage.PENDING) {
                return;
            }
            if (scope.late) {
                graph.settle(scope.result, Stage.FAILURE, TOO_LATE);
            } else if (succeeded(scope)) {
                graph.settle(scope.result, Stage.VALUE, valueOf(scope));
            } else {
                Task failed = firstEnded(scope, Task.FAILED);
                graph.settle(scope.result, Stage.FAILURE, failed == null ? 0 : failed.content);
            }
        }

        private boolean succeeded(Scope scope) {
            if (scope.policy == Scope.POLICY_FIRST) {
                return countTasks(scope, Task.DONE) > 0;
            }
            return countTasks(scope, Task.FAILED) == 0 && countTasks(scope, Task.CANCELLED) == 0;
        }

        private int valueOf(Scope scope) {
            if (scope.policy == Scope.POLICY_FIRST) {
                Task done = firstEnded(scope, Task.DONE);
                return done == null ? 0 : done.content;
            }
            int sum = 0;
            for (int i = 0; i < tasksMade; i++) {
                if (tasks[i].owner == scope && tasks[i].state == Task.DONE) {
                    sum += tasks[i].content;
                }
            }
            return sum;
        }

        /** Null if no task of the scope ended so. */
        private Task firstEnded(Scope owner, int state) {
            Task first = null;
            for (int i = 0; i < tasksMade; i++) {
                Task each = tasks[i];
                if (each.owner == owner && each.state == state && (first == null || each.turn < first.turn)) {
                    first = each;
                }
            }
            return first;
        }
    }
}
