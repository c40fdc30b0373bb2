/**
 * Tasks that are polled by three workers. The promises that the comments name are those of the document.
 *
 * A task's future is not a tree of objects: its parts are the tokens of its program, told apart by their place in it,
 * so that all a task needs is three rows that are made once.
 */
public final class PollYard {
    public static final int REFUSED = -1, FULL = -2;
    public static final int IDLE = 0, QUEUED = 1, DONE = 2, FAILED = 3, CANCELLED = 4;

    /** How a task stands while a worker polls it: no call from outside can see that. */
    private static final int POLLED = 5;

    private static final int MOST_TOKENS = 12, MOST_PROGRAMS = 6, MOST_TASKS = 12;
    /** Parts that wait have no parts: of twelve tokens six can, since the others must join them. */
    private static final int MOST_WAITING = MOST_TASKS * MOST_TOKENS / 2;
    private static final int WORKERS = 3, RING_ROOM = 4, UNITS = 4, MOST_SLOT_TURNS = 2, INJECTOR_EVERY = 5;
    private static final int NONE = -1, NOTHING_POLLED = -2;
    private static final int NO_SUCH_TASK = 98, WAS_CANCELLED = 99;

    private static final int GIVE = 0, TURN = 1, SLEEP = 2, TAKE = 3, PUT = 4, WAIT = 5, WAKE = 6, SPAWN = 7;
    private static final int REAP = 8, FAIL = 9, THEN = 10, BOTH = 11, FIRST = 12, WITHIN = 13, ADD = 14, CATCH = 15;
    private static final int OPS = 16;

    private static final int LEAST = -2147483648, MOST = 2147483647;
    /** Of each op: how many parts it has, and which a it takes. */
    private static final int[] PARTS = {0, 0, 0, 0, 0, 0, 0, 0, 1, 0, 2, 2, 2, 1, 1, 1};
    private static final int[] LOWEST = {LEAST, 0, 1, 0, 0, 0, 0, 0, LEAST, 1, LEAST, LEAST, LEAST, 1, LEAST, LEAST};
    private static final int[] HIGHEST = {MOST, 3, 40, 5, 5, 1, 1, 5, MOST, 97, MOST, MOST, MOST, 40, MOST, MOST};

    /** What a part has become. BROKEN is the document's FAILED, which is here how a task stands. */
    private static final int FRESH = 0, PENDING = 1, READY = 2, BROKEN = 3, DROPPED = 4;

    /** The mark of a part that has begun nothing yet; of a WAIT that waits; of one that was notified. */
    private static final int UNBEGUN = -1, WAITS = 0, NOTIFIED = 1;

    private Program draft = new Program();
    private final Program[] programs = new Program[MOST_PROGRAMS];
    private int programCount = 0;
    private final Task[] tasks = new Task[MOST_TASKS];
    private int taskCount = 0;
    private final Worker[] workers = {new Worker(0), new Worker(1), new Worker(2)};
    private final Row injector = new Row(MOST_TASKS);
    /**
     * Who was queued since this call, or this polling, began. Nobody looks into slot, ring or injector meanwhile, so
     * that they can be put there, in this order, when it is over.
     */
    private final Row woken = new Row(MOST_TASKS);
    private final Gate[] gates = {new Gate(), new Gate()};
    private final Notice[] notices = {new Notice(), new Notice()};
    private int clock = 0;
    private int pollings = 0;
    private int thefts = 0;
    private int nextOfRun = 0;

    public PollYard() {
    }

    // ---- promises 2 to 4: the draft

    public int token(int op, int a) {
        if (op < 0 || op >= OPS || a < LOWEST[op] || a > HIGHEST[op]) {
            return REFUSED;
        }
        return draft.append(op, a) ? draft.size : FULL;
    }

    public int define() {
        if (!draft.isOneFuture()) {
            return REFUSED;
        }
        if (programCount >= MOST_PROGRAMS) {
            return FULL;
        }
        draft.findEnds();
        programs[programCount] = draft;
        draft = new Program();
        return programCount++;
    }

    public int clear() {
        int had = draft.size;
        draft.size = 0;
        return had;
    }

    // ---- promises 5 to 11: what changes the yard

    public int spawn(int p) {
        if (p < 0 || p >= programCount) {
            return REFUSED;
        }
        if (taskCount >= MOST_TASKS) {
            return FULL;
        }
        int number = makeTask(p);
        injectWoken();
        return number;
    }

    public int turn(int w) {
        return w < 0 || w >= WORKERS ? REFUSED : takeTurn(workers[w]);
    }

    public int run(int n) {
        if (n < 1 || n > 30) {
            return REFUSED;
        }
        int polled = 0;
        for (int i = 0; i < n; i++) {
            if (takeTurn(workers[nextOfRun]) != NOTHING_POLLED) {
                polled++;
            }
            nextOfRun = (nextOfRun + 1) % WORKERS;
        }
        return polled;
    }

    public int tick(int n) {
        if (n < 1 || n > 20) {
            return REFUSED;
        }
        for (int i = 0; i < n; i++) {
            clock++;
            wakeTheDue();
        }
        injectWoken();
        return clock;
    }

    public boolean abort(int t) {
        Task task = taskAt(t);
        if (task == null || task.hasEnded()) {
            return false;
        }
        unqueue(t);
        // it has ended before its future is dropped: what that gives back must not wake it
        task.standing = CANCELLED;
        drop(task, 0);
        wakeReapers(t);
        injectWoken();
        return true;
    }

    public int put(int g, int k) {
        if (g < 0 || g > 1 || k < 1 || k > 9) {
            return REFUSED;
        }
        addPermits(gates[g], k);
        injectWoken();
        return gates[g].permits;
    }

    public int wake(int g) {
        if (g < 0 || g > 1) {
            return REFUSED;
        }
        boolean notified = giveNotice(notices[g]);
        injectWoken();
        return notified ? 1 : 0;
    }

    // ---- promises 12 to 16: what tells of the yard

    public int task(int t, int what) {
        Task task = taskAt(t);
        if (task == null) {
            return REFUSED;
        }
        switch (what) {
            case 0: return task.standing;
            case 1: return task.outcome;
            case 2: return task.polls;
            case 3: return task.programNumber;
            case 4: return task.units;
            case 5: return whereQueued(t);
            default: return REFUSED;
        }
    }

    public int worker(int w, int what) {
        if (w < 0 || w >= WORKERS) {
            return REFUSED;
        }
        Worker worker = workers[w];
        switch (what) {
            case 0: return worker.slot;
            case 1: return worker.turns;
            case 2: return worker.ring.size;
            case 3: case 4: case 5: case 6: return worker.ring.at(what - 3);
            case 7: return worker.slotTurns;
            default: return REFUSED;
        }
    }

    public int injected(int k) {
        return k < 0 || k >= injector.size ? REFUSED : injector.at(k);
    }

    public int gate(int g, int what) {
        if (g < 0 || g > 1) {
            return REFUSED;
        }
        switch (what) {
            case 0: return gates[g].permits;
            case 1: return gates[g].waiting.size;
            case 2: return gotByFirst(gates[g]);
            case 3: return notices[g].kept ? 1 : 0;
            case 4: return notices[g].waiting.size;
            default: return REFUSED;
        }
    }

    public int count(int what) {
        switch (what) {
            case 0: return programCount;
            case 1: return taskCount;
            case 2: return tasksNotEnded();
            case 3: return clock;
            case 4: return pollings;
            case 5: return injector.size;
            case 6: return thefts;
            case 7: return draft.size;
            default: return REFUSED;
        }
    }

    private int whereQueued(int number) {
        if (injector.holds(number)) {
            return 1;
        }
        for (Worker worker : workers) {
            if (worker.slot == number) {
                return 2 + worker.number;
            }
            if (worker.ring.holds(number)) {
                return 5 + worker.number;
            }
        }
        return 0;
    }

    private int gotByFirst(Gate gate) {
        if (gate.waiting.isEmpty()) {
            return 0;
        }
        int place = gate.waiting.at(0);
        Task t = ownerOf(place);
        return t == null ? 0 : t.mark[place % MOST_TOKENS];
    }

    private int tasksNotEnded() {
        int living = 0;
        for (int i = 0; i < taskCount; i++) {
            Task t = taskAt(i);
            if (t != null && !t.hasEnded()) {
                living++;
            }
        }
        return living;
    }

    // ---- tasks: made, woken, queued

    private Task taskAt(int number) {
        return number < 0 || number >= taskCount || number >= MOST_TASKS ? null : tasks[number];
    }

    /** The task of a part that waits in the row of a gate or a notice. */
    private Task ownerOf(int place) {
        return place < 0 ? null : taskAt(place / MOST_TOKENS);
    }

    /** The new task's number, or NONE. */
    private int makeTask(int p) {
        if (p < 0 || p >= programCount || taskCount >= MOST_TASKS) {
            return NONE;
        }
        int number = taskCount;
        tasks[number] = new Task(number, p, programs[p]);
        taskCount++;
        woken.add(number);
        return number;
    }

    private void wakeTask(Task t) {
        if (t.standing == IDLE) {
            t.standing = QUEUED;
            woken.add(t.number);
        } else if (t.standing == POLLED) {
            t.noted = true;
        }
    }

    private void wakeReapers(int ended) {
        for (int i = 0; i < taskCount; i++) {
            Task t = taskAt(i);
            if (t != null && t.reaps(ended)) {
                wakeTask(t);
            }
        }
    }

    private void wakeTheDue() {
        for (int i = 0; i < taskCount; i++) {
            Task t = taskAt(i);
            if (t != null && t.isDueAt(clock)) {
                wakeTask(t);
            }
        }
    }

    private void injectWoken() {
        for (int i = 0; i < woken.size; i++) {
            injector.add(woken.at(i));
        }
        woken.size = 0;
    }

    private void slotWoken(Worker worker) {
        for (int i = 0; i < woken.size; i++) {
            if (worker.slot != NONE) {
                pushToRing(worker, worker.slot);
            }
            worker.slot = woken.at(i);
        }
        woken.size = 0;
    }

    private void pushToRing(Worker worker, int number) {
        if (worker.ring.size < RING_ROOM) {
            worker.ring.add(number);
            return;
        }
        injector.add(worker.ring.takeFirst());
        injector.add(worker.ring.takeFirst());
        injector.add(number);
    }

    private void unqueue(int number) {
        injector.remove(number);
        for (Worker worker : workers) {
            worker.ring.remove(number);
            if (worker.slot == number) {
                worker.slot = NONE;
            }
        }
    }

    // ---- a turn of a worker

    /** The number of the task that was polled, or NOTHING_POLLED. */
    private int takeTurn(Worker worker) {
        worker.turns++;
        Task t = taskAt(nextTask(worker));
        if (t == null) {
            return NOTHING_POLLED;
        }
        t.standing = POLLED;
        t.noted = false;
        t.units = UNITS;
        t.polls++;
        pollings++;
        if (poll(t, 0, 0) == PENDING) {
            t.standing = t.noted ? QUEUED : IDLE;
        } else {
            t.end();
            wakeReapers(t.number);
        }
        slotWoken(worker);
        if (t.standing == QUEUED) {
            pushToRing(worker, t.number);
        }
        return t.number;
    }

    private int nextTask(Worker worker) {
        boolean injectorFirst = worker.turns % INJECTOR_EVERY == 0 && !injector.isEmpty();
        boolean slotAllowed = worker.slotTurns < MOST_SLOT_TURNS || worker.ring.isEmpty() && injector.isEmpty();
        if (worker.slot != NONE && slotAllowed && !injectorFirst) {
            worker.slotTurns++;
            return worker.emptySlot();
        }
        worker.slotTurns = 0;
        if (!injectorFirst && !worker.ring.isEmpty()) {
            return worker.ring.takeFirst();
        }
        return injector.isEmpty() ? steal(worker) : injector.takeFirst();
    }

    /** The first of what was stolen, or NONE. */
    private int steal(Worker thief) {
        for (int i = 1; i < WORKERS; i++) {
            Row ring = workers[(thief.number + i) % WORKERS].ring;
            if (!ring.isEmpty()) {
                thefts++;
                int others = (ring.size + 1) / 2 - 1;
                int first = ring.takeFirst();
                for (int k = 0; k < others; k++) {
                    thief.ring.add(ring.takeFirst());
                }
                return first;
            }
        }
        return NONE;
    }

    // ---- polling a part of a task's future

    /**
     * Polls part n of t: what it has become. Parts stand behind their whole, so that no polling goes deeper than a
     * program has tokens.
     */
    private int poll(Task t, int n, int depth) {
        if (depth >= MOST_TOKENS || !t.program.has(n)) {
            return PENDING;
        }
        if (t.phase[n] == READY) {
            return READY;
        }
        t.phase[n] = PENDING;
        int a = t.program.args[n];
        switch (t.program.ops[n]) {
            case GIVE: t.makeReady(n, a); break;
            case TURN: pollTurn(t, n, a); break;
            case SLEEP: pollSleep(t, n, a); break;
            case TAKE: pollTake(t, n, a); break;
            case PUT: addPermits(gates[a & 1], permitsOf(a)); t.makeReady(n, 0); break;
            case WAIT: pollWait(t, n, a); break;
            case WAKE: giveNotice(notices[a & 1]); t.makeReady(n, 0); break;
            case SPAWN: t.makeReady(n, makeTask(a)); break;
            case REAP: pollReap(t, n, depth); break;
            case FAIL: t.makeBroken(n, a); break;
            case THEN: pollThen(t, n, depth); break;
            case BOTH: pollBoth(t, n, depth); break;
            case FIRST: pollFirst(t, n, depth); break;
            case WITHIN: pollWithin(t, n, depth); break;
            case ADD: pollAdd(t, n, depth); break;
            case CATCH: pollCatch(t, n, depth); break;
            default: break;
        }
        return t.phase[n];
    }

    private void pollTurn(Task t, int n, int a) {
        int before = Math.max(t.mark[n], 0);
        if (before >= a) {
            t.makeReady(n, 0);
            return;
        }
        t.mark[n] = before + 1;
        wakeTask(t);
    }

    private void pollSleep(Task t, int n, int a) {
        if (t.mark[n] == UNBEGUN) {
            t.mark[n] = clock;
        }
        if (clock - t.mark[n] >= a) {
            t.makeReady(n, 0);
        }
    }

    private void pollTake(Task t, int n, int a) {
        Gate gate = gates[a & 1];
        int wanted = permitsOf(a);
        boolean begins = t.mark[n] == UNBEGUN;
        boolean hasThem = begins ? gate.waiting.isEmpty() && gate.permits >= wanted : t.mark[n] >= wanted;
        if (hasThem) {
            if (spendUnit(t)) {
                gate.permits -= begins ? wanted : 0;
                t.makeReady(n, wanted);
            }
        } else if (begins) {
            t.mark[n] = gate.permits;
            gate.permits = 0;
            gate.waiting.add(t.placeOf(n));
        }
    }

    private void pollWait(Task t, int n, int a) {
        Notice notice = notices[a & 1];
        boolean begins = t.mark[n] == UNBEGUN;
        boolean wasNotified = begins ? notice.kept : t.mark[n] == NOTIFIED;
        if (wasNotified) {
            if (spendUnit(t)) {
                notice.kept = notice.kept && !begins;
                t.makeReady(n, 1);
            }
        } else if (begins) {
            t.mark[n] = WAITS;
            notice.waiting.add(t.placeOf(n));
        }
    }

    private void pollReap(Task t, int n, int depth) {
        int x = n + 1;
        if (poll(t, x, depth + 1) != READY) {
            t.follow(n, x);
            return;
        }
        Task reaped = taskAt(t.resultOf(x));
        if (reaped == null || reaped.number == t.number) {
            t.makeBroken(n, NO_SUCH_TASK);
        } else if (reaped.standing == CANCELLED) {
            t.makeBroken(n, WAS_CANCELLED);
        } else if (reaped.standing == FAILED) {
            t.makeBroken(n, reaped.outcome);
        } else if (reaped.standing == DONE && spendUnit(t)) {
            t.makeReady(n, reaped.outcome);
        }
    }

    private void pollThen(Task t, int n, int depth) {
        int x = n + 1;
        if (poll(t, x, depth + 1) != READY) {
            t.follow(n, x);
            return;
        }
        int y = t.program.endOf(x);
        poll(t, y, depth + 1);
        t.follow(n, y);
    }

    private void pollBoth(Task t, int n, int depth) {
        int x = n + 1;
        int y = t.program.endOf(x);
        int first = poll(t, x, depth + 1);
        if (first == BROKEN) {
            drop(t, y);
            t.follow(n, x);
            return;
        }
        int second = poll(t, y, depth + 1);
        if (second == BROKEN) {
            drop(t, x);
            t.follow(n, y);
        } else if (first == READY && second == READY) {
            t.makeReady(n, t.resultOf(x) + t.resultOf(y));
        }
    }

    private void pollFirst(Task t, int n, int depth) {
        int x = n + 1;
        int y = t.program.endOf(x);
        if (poll(t, x, depth + 1) != PENDING) {
            drop(t, y);
            t.follow(n, x);
        } else if (poll(t, y, depth + 1) != PENDING) {
            drop(t, x);
            t.follow(n, y);
        }
    }

    private void pollWithin(Task t, int n, int depth) {
        int x = n + 1;
        if (t.mark[n] == UNBEGUN) {
            t.mark[n] = clock;
        }
        if (poll(t, x, depth + 1) != PENDING) {
            t.follow(n, x);
        } else if (clock - t.mark[n] >= t.program.args[n]) {
            drop(t, x);
            t.makeReady(n, -1);
        }
    }

    private void pollAdd(Task t, int n, int depth) {
        int x = n + 1;
        if (poll(t, x, depth + 1) == READY) {
            t.makeReady(n, t.resultOf(x) + t.program.args[n]);
        } else {
            t.follow(n, x);
        }
    }

    private void pollCatch(Task t, int n, int depth) {
        int x = n + 1;
        if (poll(t, x, depth + 1) == BROKEN) {
            t.makeReady(n, -t.resultOf(x));
        } else {
            t.follow(n, x);
        }
    }

    /** Whether a unit of the budget was left; if not t is polled again, with a new budget. */
    private boolean spendUnit(Task t) {
        if (t.units <= 0) {
            wakeTask(t);
            return false;
        }
        t.units--;
        return true;
    }

    // ---- permits, notices, and what gives them back

    private static int permitsOf(int a) {
        return 1 + a / 2;
    }

    private void addPermits(Gate gate, int added) {
        int left = added;
        // a round serves the first in the row: either it leaves the row, or nothing is left
        for (int rounds = gate.waiting.size; rounds > 0 && left > 0; rounds--) {
            int place = gate.waiting.at(0);
            Task t = ownerOf(place);
            if (t == null) {
                break;
            }
            int n = place % MOST_TOKENS;
            int wanted = permitsOf(t.program.args[n]);
            int given = Math.min(left, wanted - t.mark[n]);
            t.mark[n] += given;
            left -= given;
            if (t.mark[n] >= wanted) {
                gate.waiting.takeFirst();
                wakeTask(t);
            }
        }
        gate.permits += left;
    }

    /** Whether one that waited was notified. */
    private boolean giveNotice(Notice notice) {
        if (notice.waiting.isEmpty()) {
            notice.kept = true;
            return false;
        }
        int place = notice.waiting.takeFirst();
        Task t = ownerOf(place);
        if (t != null) {
            t.mark[place % MOST_TOKENS] = NOTIFIED;
            wakeTask(t);
        }
        return true;
    }

    /**
     * Drops a part and all that belongs to it. What comes first in the row of tokens is dropped first: that is X, then
     * Y, at every level.
     */
    private void drop(Task t, int part) {
        if (t.phaseOf(part) != PENDING) {
            return;
        }
        int end = t.program.endOf(part);
        for (int n = part; n < end; n++) {
            boolean holds = t.phase[n] == PENDING && t.mark[n] != UNBEGUN;
            t.phase[n] = DROPPED;
            int a = t.program.args[n];
            if (holds && t.program.ops[n] == TAKE) {
                gates[a & 1].waiting.remove(t.placeOf(n));
                addPermits(gates[a & 1], t.mark[n]);
            } else if (holds && t.program.ops[n] == WAIT) {
                notices[a & 1].waiting.remove(t.placeOf(n));
                if (t.mark[n] == NOTIFIED) {
                    giveNotice(notices[a & 1]);
                }
            }
        }
    }

    // ---- what a yard is made of

    /** A row of numbers that are not negative, with room for as many as it was made for. */
    private static final class Row {
        final int[] items;
        int size = 0;

        Row(int room) {
            items = new int[Math.max(room, 0)];
        }

        boolean isEmpty() {
            return size == 0;
        }

        /** The k-th, or NONE. */
        int at(int k) {
            return k < 0 || k >= size ? NONE : items[k];
        }

        void add(int item) {
            if (size < items.length) {
                items[size] = item;
                size++;
            }
        }

        int indexOf(int item) {
            for (int i = 0; i < size; i++) {
                if (items[i] == item) {
                    return i;
                }
            }
            return NONE;
        }

        boolean holds(int item) {
            return indexOf(item) != NONE;
        }

        void remove(int item) {
            removeAt(indexOf(item));
        }

        /** The one that was first, or NONE. */
        int takeFirst() {
            int first = at(0);
            removeAt(0);
            return first;
        }

        private void removeAt(int k) {
            if (k < 0 || k >= size) {
                return;
            }
            size--;
            for (int i = k; i < size; i++) {
                items[i] = items[i + 1];
            }
        }
    }

    /** A row of tokens: the draft, and later a program, whose tokens are the parts of its futures. */
    private static final class Program {
        final int[] ops = new int[MOST_TOKENS];
        final int[] args = new int[MOST_TOKENS];
        /** Of each token: where the next one stands that does not belong to its future. */
        final int[] ends = new int[MOST_TOKENS];
        int size = 0;

        boolean has(int n) {
            return n >= 0 && n < size;
        }

        int endOf(int n) {
            return has(n) ? ends[n] : size;
        }

        boolean append(int op, int a) {
            if (size >= MOST_TOKENS) {
                return false;
            }
            ops[size] = op;
            args[size] = a;
            size++;
            return true;
        }

        boolean isOneFuture() {
            int missing = 1;
            for (int n = 0; n < size; n++) {
                if (missing == 0) {
                    return false;
                }
                missing += PARTS[ops[n]] - 1;
            }
            return missing == 0;
        }

        /** Only for one future. From the back, so that the ends of its parts are known when a whole is met. */
        void findEnds() {
            for (int n = size - 1; n >= 0; n--) {
                int end = n + 1;
                for (int part = 0; part < PARTS[ops[n]]; part++) {
                    end = endOf(end);
                }
                ends[n] = end;
            }
        }
    }

    /** A task, and how far the parts of its future are: phase, result and mark have one element a token. */
    private static final class Task {
        final int number;
        final int programNumber;
        final Program program;
        int standing = QUEUED;
        int outcome = 0;
        int polls = 0;
        int units = UNITS;
        boolean noted = false;
        final int[] phase = new int[MOST_TOKENS];
        /** The value of a part that is READY, the code of one that is BROKEN. */
        final int[] result = new int[MOST_TOKENS];
        /**
         * UNBEGUN, or: TURN how often it was pending; SLEEP and WITHIN the clock when they were polled first; TAKE how
         * many permits it has got; WAIT WAITS or NOTIFIED.
         */
        final int[] mark = new int[MOST_TOKENS];

        Task(int number, int programNumber, Program program) {
            this.number = number;
            this.programNumber = programNumber;
            this.program = program;
            for (int n = 0; n < MOST_TOKENS; n++) {
                mark[n] = UNBEGUN;
            }
        }

        boolean hasEnded() {
            return standing == DONE || standing == FAILED || standing == CANCELLED;
        }

        /** Names one of all parts of all tasks. */
        int placeOf(int n) {
            return number * MOST_TOKENS + n;
        }

        int phaseOf(int n) {
            return program.has(n) ? phase[n] : FRESH;
        }

        int resultOf(int n) {
            return program.has(n) ? result[n] : 0;
        }

        void makeReady(int n, int value) {
            phase[n] = READY;
            result[n] = value;
        }

        void makeBroken(int n, int code) {
            phase[n] = BROKEN;
            result[n] = code;
        }

        /** The whole n is what its part is. */
        void follow(int n, int part) {
            phase[n] = phaseOf(part);
            result[n] = resultOf(part);
        }

        void end() {
            standing = phaseOf(0) == READY ? DONE : FAILED;
            outcome = resultOf(0);
        }

        boolean reaps(int ended) {
            for (int n = 0; n < program.size; n++) {
                boolean waits = program.ops[n] == REAP && phase[n] == PENDING && phaseOf(n + 1) == READY;
                if (waits && resultOf(n + 1) == ended) {
                    return true;
                }
            }
            return false;
        }

        boolean isDueAt(int time) {
            for (int n = 0; n < program.size; n++) {
                boolean timed = program.ops[n] == SLEEP || program.ops[n] == WITHIN;
                // promise 8 rules out READY and DROPPED alone: a WITHIN that failed beneath a CATCH still wakes
                boolean live = mark[n] != UNBEGUN && phase[n] != READY && phase[n] != DROPPED;
                if (timed && live && time - mark[n] == program.args[n]) {
                    return true;
                }
            }
            return false;
        }
    }

    private static final class Worker {
        final int number;
        final Row ring = new Row(RING_ROOM);
        int slot = NONE;
        int turns = 0;
        /** How many of its latest turns in a row were from its slot. */
        int slotTurns = 0;

        Worker(int number) {
            this.number = number;
        }

        int emptySlot() {
            int held = slot;
            slot = NONE;
            return held;
        }
    }

    /** Permits, and the places of the TAKEs that wait for them. */
    private static final class Gate {
        final Row waiting = new Row(MOST_WAITING);
        int permits = 1;
    }

    /** A notice, and the places of the WAITs that wait for it. */
    private static final class Notice {
        final Row waiting = new Row(MOST_WAITING);
        boolean kept = false;
    }
}
