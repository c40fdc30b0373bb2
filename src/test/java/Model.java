import java.util.ArrayList;
import java.util.LinkedList;
import java.util.List;

/**
 * The document written down a second time, with a tree of objects for each future and with every task queued at the
 * moment it is woken: ModelTest compares the class with it.
 */
final class Model {
    private enum Phase { NEW, PENDING, READY, FAILED, DROPPED }

    private enum Standing { IDLE, QUEUED, DONE, FAILED, CANCELLED, POLLED }

    private static final int[] PARTS = {0, 0, 0, 0, 0, 0, 0, 0, 1, 0, 2, 2, 2, 1, 1, 1};

    private static final class Future {
        final int op;
        final int a;
        final Task task;
        Future x;
        Future y;
        Phase phase = Phase.NEW;
        int value;
        int pendings = 0;
        int since = -1;
        int got = 0;
        boolean inRow = false;
        boolean granted = false;

        Future(int op, int a, Task task) {
            this.op = op;
            this.a = a;
            this.task = task;
        }

        int wants() {
            return 1 + a / 2;
        }
    }

    private static final class Task {
        int number;
        int program;
        Standing standing = Standing.IDLE;
        int outcome = 0;
        int polls = 0;
        int units = 4;
        boolean noted = false;
        Future future;
    }

    private final List<int[]> draft = new ArrayList<>();
    private final List<List<int[]>> programs = new ArrayList<>();
    private final List<Task> tasks = new ArrayList<>();
    private final int[] permits = {1, 1};
    private final List<LinkedList<Future>> takers = List.of(new LinkedList<>(), new LinkedList<>());
    private final boolean[] kept = {false, false};
    private final List<LinkedList<Future>> waiters = List.of(new LinkedList<>(), new LinkedList<>());
    private final Task[] slot = new Task[3];
    private final List<LinkedList<Task>> rings = List.of(new LinkedList<>(), new LinkedList<>(), new LinkedList<>());
    private final int[] turns = new int[3];
    private final int[] fromSlot = new int[3];
    private final LinkedList<Task> injector = new LinkedList<>();
    private int turning = -1;
    private int clock = 0;
    private int pollings = 0;
    private int thefts = 0;
    private int runner = 0;

    int token(int op, int a) {
        boolean ok;
        switch (op) {
            case 0: case 14: case 8: case 10: case 11: case 12: case 15: ok = true; break;
            case 1: ok = 0 <= a && a <= 3; break;
            case 2: case 13: ok = 1 <= a && a <= 40; break;
            case 3: case 4: case 7: ok = 0 <= a && a <= 5; break;
            case 5: case 6: ok = 0 <= a && a <= 1; break;
            case 9: ok = 1 <= a && a <= 97; break;
            default: ok = false; break;
        }
        if (!ok) {
            return -1;
        }
        if (draft.size() == 12) {
            return -2;
        }
        draft.add(new int[] {op, a});
        return draft.size();
    }

    /** Where the future that begins at this token ends; -1 if it does not. */
    private int endOf(int at) {
        if (at < 0 || at >= draft.size()) {
            return -1;
        }
        int end = at + 1;
        for (int i = 0; i < PARTS[draft.get(at)[0]]; i++) {
            end = endOf(end);
        }
        return end;
    }

    int define() {
        if (endOf(0) != draft.size()) {
            return -1;
        }
        if (programs.size() == 6) {
            return -2;
        }
        programs.add(new ArrayList<>(draft));
        draft.clear();
        return programs.size() - 1;
    }

    int clear() {
        int had = draft.size();
        draft.clear();
        return had;
    }

    int spawn(int p) {
        if (p < 0 || p >= programs.size()) {
            return -1;
        }
        if (tasks.size() == 12) {
            return -2;
        }
        Task task = new Task();
        task.number = tasks.size();
        task.program = p;
        task.future = build(new LinkedList<>(programs.get(p)), task);
        tasks.add(task);
        wake(task);
        return task.number;
    }

    private Future build(LinkedList<int[]> tokens, Task task) {
        int[] token = tokens.removeFirst();
        Future future = new Future(token[0], token[1], task);
        if (PARTS[token[0]] > 0) {
            future.x = build(tokens, task);
        }
        if (PARTS[token[0]] > 1) {
            future.y = build(tokens, task);
        }
        return future;
    }

    private void wake(Task task) {
        if (task.standing == Standing.POLLED) {
            task.noted = true;
        }
        if (task.standing != Standing.IDLE) {
            return;
        }
        task.standing = Standing.QUEUED;
        if (turning < 0) {
            injector.addLast(task);
            return;
        }
        Task before = slot[turning];
        slot[turning] = task;
        if (before != null) {
            toRing(turning, before);
        }
    }

    private void toRing(int w, Task task) {
        LinkedList<Task> ring = rings.get(w);
        if (ring.size() == 4) {
            injector.addLast(ring.removeFirst());
            injector.addLast(ring.removeFirst());
            injector.addLast(task);
        } else {
            ring.addLast(task);
        }
    }

    int turn(int w) {
        if (w < 0 || w > 2) {
            return -1;
        }
        Task task = choose(w);
        if (task == null) {
            return -2;
        }
        turning = w;
        task.standing = Standing.POLLED;
        task.noted = false;
        task.units = 4;
        task.polls++;
        pollings++;
        poll(task.future);
        if (task.future.phase == Phase.PENDING) {
            task.standing = Standing.IDLE;
            if (task.noted) {
                task.standing = Standing.QUEUED;
                toRing(w, task);
            }
        } else {
            task.standing = task.future.phase == Phase.READY ? Standing.DONE : Standing.FAILED;
            task.outcome = task.future.value;
            wakeReapers(task);
        }
        turning = -1;
        return task.number;
    }

    private Task choose(int w) {
        turns[w]++;
        int row = fromSlot[w];
        fromSlot[w] = 0;
        if (turns[w] % 5 == 0 && !injector.isEmpty()) {
            return injector.removeFirst();
        }
        if (slot[w] != null && row < 2) {
            return chooseSlot(w, row);
        }
        if (!rings.get(w).isEmpty()) {
            return rings.get(w).removeFirst();
        }
        if (!injector.isEmpty()) {
            return injector.removeFirst();
        }
        if (slot[w] != null) {
            return chooseSlot(w, row);
        }
        LinkedList<Task> other = rings.get((w + 1) % 3);
        if (other.isEmpty()) {
            other = rings.get((w + 2) % 3);
        }
        if (other.isEmpty()) {
            return null;
        }
        thefts++;
        int half = other.size() - other.size() / 2;
        Task first = other.removeFirst();
        while (--half > 0) {
            rings.get(w).addLast(other.removeFirst());
        }
        return first;
    }

    private Task chooseSlot(int w, int row) {
        Task task = slot[w];
        slot[w] = null;
        fromSlot[w] = row + 1;
        return task;
    }

    private void ready(Future f, int value) {
        f.phase = Phase.READY;
        f.value = value;
    }

    private void fail(Future f, int code) {
        f.phase = Phase.FAILED;
        f.value = code;
    }

    private boolean unit(Task task) {
        if (task.units == 0) {
            task.noted = true;
            return false;
        }
        task.units--;
        return true;
    }

    private boolean isReady(Future f) {
        return f.phase == Phase.READY;
    }

    private boolean isFailed(Future f) {
        return f.phase == Phase.FAILED;
    }

    private void poll(Future f) {
        if (f.phase == Phase.READY) {
            return;
        }
        if (f.phase == Phase.FAILED || f.phase == Phase.DROPPED) {
            throw new IllegalStateException("polled though it is over");
        }
        f.phase = Phase.PENDING;
        if (f.since < 0) {
            f.since = clock;
        }
        if (f.op < 8 || f.op == 9) {
            pollLeaf(f);
        } else {
            pollWhole(f);
        }
    }

    private void pollLeaf(Future f) {
        int g = f.a % 2;
        if (f.op == 0) {
            ready(f, f.a);
        } else if (f.op == 1) {
            f.pendings++;
            if (f.pendings > f.a) {
                ready(f, 0);
            } else {
                wake(f.task);
            }
        } else if (f.op == 2) {
            if (clock >= f.since + f.a) {
                ready(f, 0);
            }
        } else if (f.op == 3) {
            boolean atOnce = !f.inRow && !f.granted && takers.get(g).isEmpty() && permits[g] >= f.wants();
            if (f.granted || atOnce) {
                if (unit(f.task)) {
                    permits[g] -= atOnce ? f.wants() : 0;
                    ready(f, f.wants());
                }
            } else if (!f.inRow) {
                f.got = permits[g];
                permits[g] = 0;
                f.inRow = true;
                takers.get(g).addLast(f);
            }
        } else if (f.op == 4) {
            add(g, f.wants());
            ready(f, 0);
        } else if (f.op == 5) {
            boolean atOnce = !f.inRow && !f.granted && kept[f.a];
            if (f.granted || atOnce) {
                if (unit(f.task)) {
                    kept[f.a] = kept[f.a] && !atOnce;
                    ready(f, 1);
                }
            } else if (!f.inRow) {
                f.inRow = true;
                waiters.get(f.a).addLast(f);
            }
        } else if (f.op == 6) {
            give(f.a);
            ready(f, 0);
        } else if (f.op == 7) {
            ready(f, Math.max(spawn(f.a), -1));
        } else {
            fail(f, f.a);
        }
    }

    private void pollWhole(Future f) {
        poll(f.x);
        if (isFailed(f.x)) {
            if (f.op == 15) {
                ready(f, -f.x.value);
                return;
            }
            fail(f, f.x.value);
            if (f.y != null) {
                drop(f.y);
            }
            return;
        }
        switch (f.op) {
            case 8: if (isReady(f.x)) { reap(f); } break;
            case 14: if (isReady(f.x)) { ready(f, f.x.value + f.a); } break;
            case 15: if (isReady(f.x)) { ready(f, f.x.value); } break;
            case 13:
                if (isReady(f.x)) {
                    ready(f, f.x.value);
                } else if (clock >= f.since + f.a) {
                    ready(f, -1);
                    drop(f.x);
                }
                break;
            default: pollPair(f); break;
        }
    }

    private void pollPair(Future f) {
        if (f.op == 10 && !isReady(f.x)) {
            return;
        }
        if (f.op == 12 && isReady(f.x)) {
            ready(f, f.x.value);
            drop(f.y);
            return;
        }
        poll(f.y);
        if (isFailed(f.y)) {
            fail(f, f.y.value);
            drop(f.x);
        } else if (isReady(f.y)) {
            if (f.op == 12) {
                drop(f.x);
            }
            if (f.op != 11) {
                ready(f, f.y.value);
            } else if (isReady(f.x)) {
                ready(f, f.x.value + f.y.value);
            }
        }
    }

    private void reap(Future f) {
        int number = f.x.value;
        if (number < 0 || number >= tasks.size() || number == f.task.number) {
            fail(f, 98);
            return;
        }
        Task other = tasks.get(number);
        if (other.standing == Standing.CANCELLED) {
            fail(f, 99);
        } else if (other.standing == Standing.FAILED) {
            fail(f, other.outcome);
        } else if (other.standing == Standing.DONE && unit(f.task)) {
            ready(f, other.outcome);
        }
    }

    private void add(int g, int added) {
        // one by one comes to the same as up to what the first one wants
        for (int i = 0; i < added; i++) {
            if (takers.get(g).isEmpty()) {
                permits[g]++;
                continue;
            }
            Future first = takers.get(g).getFirst();
            first.got++;
            if (first.got == first.wants()) {
                takers.get(g).removeFirst();
                first.inRow = false;
                first.granted = true;
                wake(first.task);
            }
        }
    }

    private boolean give(int g) {
        if (waiters.get(g).isEmpty()) {
            kept[g] = true;
            return false;
        }
        Future first = waiters.get(g).removeFirst();
        first.inRow = false;
        first.granted = true;
        wake(first.task);
        return true;
    }

    private void drop(Future f) {
        boolean pending = f.phase == Phase.PENDING;
        f.phase = Phase.DROPPED;
        if (pending && f.op == 3) {
            takers.get(f.a % 2).remove(f);
            add(f.a % 2, f.got);
        } else if (pending && f.op == 5) {
            waiters.get(f.a).remove(f);
            if (f.granted) {
                give(f.a);
            }
        }
        if (f.x != null) {
            drop(f.x);
        }
        if (f.y != null) {
            drop(f.y);
        }
    }

    private void wakeReapers(Task ended) {
        for (Task task : tasks) {
            if (reaps(task.future, ended.number)) {
                wake(task);
            }
        }
    }

    private boolean reaps(Future f, int number) {
        if (f == null || f.phase != Phase.PENDING) {
            return false;
        }
        boolean itself = f.op == 8 && isReady(f.x) && f.x.value == number;
        return itself || reaps(f.x, number) || reaps(f.y, number);
    }

    int run(int n) {
        if (n < 1 || n > 30) {
            return -1;
        }
        int before = pollings;
        for (int i = 0; i < n; i++) {
            turn(runner);
            runner = runner == 2 ? 0 : runner + 1;
        }
        return pollings - before;
    }

    int tick(int n) {
        if (n < 1 || n > 20) {
            return -1;
        }
        for (int i = 0; i < n; i++) {
            clock++;
            for (Task task : tasks) {
                if (due(task.future)) {
                    wake(task);
                }
            }
        }
        return clock;
    }

    private boolean due(Future f) {
        if (f == null) {
            return false;
        }
        boolean timed = f.op == 2 || f.op == 13;
        boolean live = f.since >= 0 && f.phase != Phase.READY && f.phase != Phase.DROPPED;
        return timed && live && f.since + f.a == clock || due(f.x) || due(f.y);
    }

    boolean abort(int t) {
        if (t < 0 || t >= tasks.size()) {
            return false;
        }
        Task task = tasks.get(t);
        if (task.standing != Standing.IDLE && task.standing != Standing.QUEUED) {
            return false;
        }
        task.standing = Standing.CANCELLED;
        injector.remove(task);
        for (int w = 0; w < 3; w++) {
            rings.get(w).remove(task);
            slot[w] = slot[w] == task ? null : slot[w];
        }
        drop(task.future);
        wakeReapers(task);
        return true;
    }

    int put(int g, int k) {
        if (g < 0 || g > 1 || k < 1 || k > 9) {
            return -1;
        }
        add(g, k);
        return permits[g];
    }

    int wake(int g) {
        return g < 0 || g > 1 ? -1 : give(g) ? 1 : 0;
    }

    int task(int t, int what) {
        if (t < 0 || t >= tasks.size() || what < 0 || what > 5) {
            return -1;
        }
        Task task = tasks.get(t);
        int[] told = {task.standing.ordinal(), task.outcome, task.polls, task.program, task.units, place(task)};
        return told[what];
    }

    private int place(Task task) {
        int place = injector.contains(task) ? 1 : 0;
        for (int w = 0; w < 3; w++) {
            place += slot[w] == task ? 2 + w : 0;
            place += rings.get(w).contains(task) ? 5 + w : 0;
        }
        return place;
    }

    int worker(int w, int what) {
        if (w < 0 || w > 2 || what < 0 || what > 7) {
            return -1;
        }
        LinkedList<Task> ring = rings.get(w);
        switch (what) {
            case 0: return slot[w] == null ? -1 : slot[w].number;
            case 1: return turns[w];
            case 2: return ring.size();
            case 7: return fromSlot[w];
            default: return what - 3 < ring.size() ? ring.get(what - 3).number : -1;
        }
    }

    int injected(int k) {
        return k < 0 || k >= injector.size() ? -1 : injector.get(k).number;
    }

    int gate(int g, int what) {
        if (g < 0 || g > 1 || what < 0 || what > 4) {
            return -1;
        }
        int got = takers.get(g).isEmpty() ? 0 : takers.get(g).getFirst().got;
        return new int[] {permits[g], takers.get(g).size(), got, kept[g] ? 1 : 0, waiters.get(g).size()}[what];
    }

    int count(int what) {
        if (what < 0 || what > 7) {
            return -1;
        }
        int living = 0;
        for (Task task : tasks) {
            living += task.standing == Standing.IDLE || task.standing == Standing.QUEUED ? 1 : 0;
        }
        return new int[] {programs.size(), tasks.size(), living, clock, pollings, injector.size(), thefts,
            draft.size()}[what];
    }
}
