import java.util.function.IntUnaryOperator;

/** Promises 5 to 16: a test for each sentence that names an edge; the sentence stands above its test. */
public final class EdgesOfCallsTest {
    private static final int LOW = Integer.MIN_VALUE, HIGH = Integer.MAX_VALUE;
    private static final int REFUSED = PollYard.REFUSED, FULL = PollYard.FULL;
    private static final int IDLE = PollYard.IDLE, QUEUED = PollYard.QUEUED, DONE = PollYard.DONE;
    private static final int FAILED = PollYard.FAILED, CANCELLED = PollYard.CANCELLED;

    public static void main(String[] args) {
        constants();
        spawnOfNoProgram();
        thirteenthTask();
        spawnRefusedBeforeFull();
        turnOfNoWorker();
        turnOfNothing();
        runTooFewOrMany();
        runGoesOnBehindItself();
        tickTooFewOrMany();
        tickJustThen();
        tickOfSeveral();
        tickOfReadyOrDropped();
        tickOfFailed();
        abortOfNone();
        abortOfEnded();
        abortedIsQueuedNoMore();
        putOutOfRange();
        putWhatIsThere();
        wakeOutOfRange();
        wakeNobody();
        taskOutOfRange();
        taskOutcomes();
        taskUnits();
        taskPlaces();
        workerOutOfRange();
        workerRing();
        workerSlotTurns();
        injectedOutOfRange();
        injectedAll();
        gateOutOfRange();
        gateFirstOfNone();
        countOutOfRange();
        countAll();
        countOfLiving();
        theLastCalls();
        Due.end();
    }

    private static void refusedAll(PollYard yard, String call, int[] wrong, IntUnaryOperator answer) {
        String before = Due.sight(yard);
        for (int one : wrong) {
            Due.is(call + " of " + one, answer.applyAsInt(one), REFUSED);
        }
        Due.same("a yard that refused " + call, Due.sight(yard), before);
    }

    private static int[] outside(int least, int most) {
        return new int[] {LOW, LOW + 1, least - 65536, least - 256, least - 2, least - 1,
            most + 1, most + 2, most + 256, most + 65536, HIGH - 1, HIGH};
    }

    /** A yard in which something is everywhere: in slot, ring and injector, at gate and notice, asleep, ended. */
    private static PollYard busy() {
        PollYard yard = new PollYard();
        Due.program(yard, "BOTH TAKE 2 BOTH WAIT 1 SLEEP 20");
        Due.program(yard, "THEN SPAWN 0 THEN SPAWN 0 TURN 3");
        Due.program(yard, "FAIL 7");
        yard.spawn(0);
        yard.spawn(1);
        yard.spawn(2);
        yard.spawn(2);
        yard.spawn(2);
        yard.run(3);
        yard.abort(3);
        yard.tick(3);
        yard.wake(0);
        yard.token(10, 0);
        return yard;
    }

    /** "The constants: REFUSED = -1, FULL = -2", "IDLE = 0, QUEUED = 1, DONE = 2, FAILED = 3, CANCELLED = 4" */
    private static void constants() {
        Due.is("REFUSED", REFUSED, -1);
        Due.is("FULL", FULL, -2);
        Due.is("IDLE", IDLE, 0);
        Due.is("QUEUED", QUEUED, 1);
        Due.is("DONE", DONE, 2);
        Due.is("FAILED", FAILED, 3);
        Due.is("CANCELLED", CANCELLED, 4);
    }

    /** Promise 5: "REFUSED if there is none" */
    private static void spawnOfNoProgram() {
        PollYard yard = new PollYard();
        yard.token(0, 1);
        Due.is("spawn(0) of a draft", yard.spawn(0), REFUSED);
        yard.define();
        Due.is("spawn(1)", yard.spawn(1), REFUSED);
        Due.is("spawn(0)", yard.spawn(0), 0);
        PollYard other = busy();
        refusedAll(other, "spawn", outside(0, 2), other::spawn);
        PollYard full = new PollYard();
        for (int p = 0; p < 6; p++) {
            Due.program(full, "GIVE 1");
        }
        refusedAll(full, "spawn", outside(0, 5), full::spawn);
        Due.is("spawn(5)", full.spawn(5), 0);
    }

    /** Promise 5: "FULL if there were 12 TASKS." */
    private static void thirteenthTask() {
        PollYard yard = new PollYard();
        Due.program(yard, "TURN 1");
        Due.program(yard, "THEN SPAWN 0 SPAWN 0");
        for (int t = 0; t < 10; t++) {
            Due.is("spawn", yard.spawn(t == 0 ? 1 : 0), t);
        }
        Due.is("turn(0)", yard.turn(0), 0);
        Due.is("task(0, 1)", yard.task(0, 1), 11);
        String before = Due.sight(yard);
        Due.is("the 13th", yard.spawn(0), FULL);
        Due.is("the 13th", yard.spawn(1), FULL);
        Due.same("a yard without room", Due.sight(yard), before);
        Due.is("abort(11)", yard.abort(11), true);
        Due.is("the 13th, one being cancelled", yard.spawn(0), FULL);
        Due.is("run(30)", yard.run(30), 20);
        Due.is("the 13th, all having ended", yard.spawn(0), FULL);
        Due.counts(yard, 2, 12, 0, 0, 21, 0);
    }

    /** Promise 5: "REFUSED if there is none; FULL if there were 12 TASKS." */
    private static void spawnRefusedBeforeFull() {
        PollYard yard = new PollYard();
        Due.program(yard, "GIVE 1");
        for (int t = 0; t < 12; t++) {
            Due.is("spawn(0)", yard.spawn(0), t);
        }
        for (int p : outside(0, 0)) {
            Due.is("spawn(" + p + ")", yard.spawn(p), REFUSED);
        }
        Due.is("spawn(0)", yard.spawn(0), FULL);
    }

    /** Promise 6: "REFUSED (-1) if w is not 0..2." */
    private static void turnOfNoWorker() {
        PollYard yard = busy();
        refusedAll(yard, "turn", outside(0, 2), yard::turn);
    }

    /** Promise 6: "or -2 if there was none" */
    private static void turnOfNothing() {
        PollYard yard = new PollYard();
        Due.spawn(yard, "SLEEP 1");
        for (int w = 0; w < 3; w++) {
            Due.is("turn(" + w + ")", yard.turn(w), w == 0 ? 0 : -2);
            Due.is("turn(" + w + ")", yard.turn(w), -2);
            Due.is("worker(" + w + ", 1)", yard.worker(w, 1), 2);
        }
        Due.is("count(4)", yard.count(4), 1);
        yard.tick(1);
        Due.is("turn(2)", yard.turn(2), 0);
        Due.is("turn(2)", yard.turn(2), -2);
    }

    /** Promise 7: "n (1..30) TURNS", "REFUSED for another n." */
    private static void runTooFewOrMany() {
        PollYard yard = busy();
        refusedAll(yard, "run", outside(1, 30), yard::run);
        for (int n = 1; n <= 30; n++) {
            PollYard idle = new PollYard();
            Due.is("run(" + n + ")", idle.run(n), 0);
            for (int w = 0; w < 3; w++) {
                Due.is("worker(" + w + ", 1) behind run(" + n + ")", idle.worker(w, 1), (n + 2 - w) / 3);
            }
        }
    }

    /** Promise 7: "(the first time of 0, then of that behind the last one of run)" */
    private static void runGoesOnBehindItself() {
        PollYard yard = new PollYard();
        Due.is("turn(2)", yard.turn(2), -2);
        Due.is("run(31)", yard.run(31), REFUSED);
        int[] turns = {0, 0, 1};
        int next = 0;
        for (int n : new int[] {1, 1, 1, 2, 2, 2, 4, 30, 5, 29, 1}) {
            Due.is("run(" + n + ")", yard.run(n), 0);
            for (int i = 0; i < n; i++) {
                turns[next]++;
                next = (next + 1) % 3;
            }
            Due.is("run(0)", yard.run(0), REFUSED);
            Due.is("turn(1)", yard.turn(1), -2);
            turns[1]++;
            for (int w = 0; w < 3; w++) {
                Due.is("worker(" + w + ", 1)", yard.worker(w, 1), turns[w]);
            }
        }
    }

    /** Promise 8: "n (1..20) TICKS: the CLOCK then", "REFUSED for another n." */
    private static void tickTooFewOrMany() {
        PollYard yard = busy();
        refusedAll(yard, "tick", outside(1, 20), yard::tick);
        PollYard still = new PollYard();
        int clock = 0;
        for (int n = 1; n <= 20; n++) {
            clock += n;
            Due.is("tick(" + n + ")", still.tick(n), clock);
            Due.is("count(3)", still.count(3), clock);
        }
    }

    /** Promise 8: "a SLEEP or WITHIN that was polled .. is due just then": not a tick earlier, and no tick later. */
    private static void tickJustThen() {
        for (String words : new String[] {"BOTH WAIT 0 SLEEP %", "WITHIN % WAIT 0"}) {
            for (int a : new int[] {1, 2, 20, 21, 39, 40}) {
                PollYard yard = new PollYard();
                yard.tick(7);
                Due.spawn(yard, words.replace("%", "" + a));
                Due.is("turn(0)", yard.turn(0), 0);
                for (int i = 1; i < a; i++) {
                    yard.tick(1);
                }
                Due.is("a tick before " + a, yard.task(0, 0), IDLE);
                yard.tick(1);
                Due.is("just at " + a, yard.task(0, 5), 1);
            }
        }
        // it is due once: polled then, and still pending, it is not woken by later ticks
        PollYard yard = new PollYard();
        Due.spawn(yard, "BOTH WAIT 0 SLEEP 2");
        yard.turn(0);
        yard.tick(2);
        yard.turn(0);
        Due.task(yard, 0, IDLE, 0, 2);
        for (int i = 0; i < 45; i++) {
            yard.tick(1);
        }
        Due.task(yard, 0, IDLE, 0, 2);
    }

    /** Promise 8: "In each the CLOCK is one more, then TASKS are woken, by numbers" */
    private static void tickOfSeveral() {
        PollYard yard = new PollYard();
        for (int a : new int[] {20, 3, 1, 20, 21}) {
            Due.spawn(yard, "SLEEP " + a);
        }
        yard.spawn(1);
        Due.is("run(6)", yard.run(6), 6);
        Due.is("tick(20)", yard.tick(20), 20);
        Due.injector(yard, 2, 1, 5, 0, 3);
        Due.task(yard, 4, IDLE, 0, 1, 4, 4, 0);
        Due.is("tick(1)", yard.tick(1), 21);
        Due.injector(yard, 2, 1, 5, 0, 3, 4);
    }

    /** Promise 8: "and is neither READY nor DROPPED" */
    private static void tickOfReadyOrDropped() {
        for (String words : new String[] {"THEN WITHIN 4 WAIT 0 WAIT 1", "THEN FIRST WAIT 0 SLEEP 4 WAIT 1",
            "THEN FIRST WAIT 0 WITHIN 4 WAIT 1 WAIT 1", "THEN CATCH BOTH THEN WAIT 0 FAIL 2 SLEEP 4 WAIT 1"}) {
            PollYard yard = new PollYard();
            Due.spawn(yard, words);
            yard.turn(0);
            yard.wake(0);
            yard.turn(0);
            for (int i = 0; i < 6; i++) {
                yard.tick(1);
                Due.is(words + " at " + (i + 1), yard.task(0, 0), IDLE);
            }
            Due.task(yard, 0, IDLE, 0, 2);
        }
        // one that was not polled is not due
        PollYard yard = new PollYard();
        Due.spawn(yard, "THEN WAIT 0 SLEEP 4");
        yard.turn(0);
        yard.tick(6);
        Due.task(yard, 0, IDLE, 0, 1);
    }

    /**
     * Promise 8: "neither READY nor DROPPED": by these words one that FAILED, beneath a CATCH, still wakes its task.
     */
    private static void tickOfFailed() {
        PollYard yard = new PollYard();
        Due.spawn(yard, "THEN CATCH WITHIN 4 THEN WAIT 0 FAIL 2 WAIT 1");
        yard.turn(0);
        yard.wake(0);
        yard.turn(0);
        yard.tick(3);
        Due.task(yard, 0, IDLE, 0, 2);
        yard.tick(1);
        Due.task(yard, 0, QUEUED, 0, 2, 0, 3, 1);
        yard.turn(0);
        Due.task(yard, 0, IDLE, 0, 3);
    }

    /** Promise 9: "False if there is none" */
    private static void abortOfNone() {
        PollYard yard = busy();
        int tasks = yard.count(1);
        String before = Due.sight(yard);
        for (int t : outside(0, tasks - 1)) {
            Due.is("abort(" + t + ")", yard.abort(t), false);
        }
        Due.same("a yard with nothing to abort", Due.sight(yard), before);
    }

    /** Promise 9: "or it has ENDED": done, failed, or cancelled. */
    private static void abortOfEnded() {
        PollYard yard = new PollYard();
        Due.spawn(yard, "GIVE 6");
        Due.spawn(yard, "FAIL 6");
        Due.spawn(yard, "GIVE 6");
        Due.is("run(2)", yard.run(2), 2);
        Due.is("abort(2)", yard.abort(2), true);
        String before = Due.sight(yard);
        for (int t = 0; t < 3; t++) {
            Due.is("abort(" + t + ")", yard.abort(t), false);
        }
        Due.same("a yard whose tasks have ended", Due.sight(yard), before);
        Due.task(yard, 0, DONE, 6, 1);
        Due.task(yard, 1, FAILED, 6, 1);
        Due.task(yard, 2, CANCELLED, 0, 0, 2, 4, 0);
    }

    /** Promise 9: "It is QUEUED no more": from the injector, a slot, a ring; first, in the middle, last. */
    private static void abortedIsQueuedNoMore() {
        for (int aborted = 0; aborted < 4; aborted++) {
            PollYard yard = new PollYard();
            Due.program(yard, "GIVE 1");
            yard.spawn(0);
            yard.spawn(0);
            yard.spawn(0);
            Due.program(yard, "THEN SPAWN 0 THEN SPAWN 0 THEN SPAWN 0 TURN 1");
            yard.spawn(1);
            if (aborted < 3) {
                Due.is("abort(" + aborted + ")", yard.abort(aborted), true);
                Due.injector(yard, aborted == 0 ? 1 : 0, aborted == 2 ? 1 : 2, 3);
                continue;
            }
            Due.is("run(3)", yard.run(3), 3);
            Due.is("turn(1)", yard.turn(1), 3);
            Due.worker(yard, 1, 6, 4, 5, 3);
            Due.is("abort(6)", yard.abort(6), true);
            Due.worker(yard, 1, -1, 4, 5, 3);
            Due.is("abort(5)", yard.abort(5), true);
            Due.worker(yard, 1, -1, 4, 3);
            Due.is("abort(3)", yard.abort(3), true);
            Due.worker(yard, 1, -1, 4);
            Due.is("abort(4)", yard.abort(4), true);
            Due.worker(yard, 1, -1);
            Due.is("run(30)", yard.run(30), 0);
        }
    }

    /** Promise 10: "REFUSED if a number is out of range." */
    private static void putOutOfRange() {
        PollYard yard = busy();
        refusedAll(yard, "put(.., 1)", outside(0, 1), g -> yard.put(g, 1));
        PollYard other = busy();
        refusedAll(other, "put(1, ..)", outside(1, 9), k -> other.put(1, k));
        Due.is("put(2, 10)", other.put(2, 10), REFUSED);
        Due.is("put(-1, 0)", other.put(-1, 0), REFUSED);
    }

    /** Promise 10: "k (1..9) PERMITS are added to gate g: how many are there then." */
    private static void putWhatIsThere() {
        PollYard yard = new PollYard();
        int[] there = {1, 1};
        for (int k = 1; k <= 9; k++) {
            int g = k % 2;
            there[g] += k;
            Due.is("put(" + g + ", " + k + ")", yard.put(g, k), there[g]);
            Due.is("gate(" + (1 - g) + ", 0)", yard.gate(1 - g, 0), there[1 - g]);
        }
        // those that wait are served first: nothing, all that is left, or what they do not want
        for (int k = 1; k <= 4; k++) {
            yard = new PollYard();
            Due.spawn(yard, "BOTH TAKE 3 TAKE 1");
            yard.turn(0);
            Due.is("put(1, " + k + ")", yard.put(1, k), Math.max(k - 2, 0));
            Due.is("gate(1, 1)", yard.gate(1, 1), Math.max(2 - k, 0));
        }
    }

    /** Promise 11: "REFUSED if g is not 0..1." */
    private static void wakeOutOfRange() {
        PollYard yard = busy();
        refusedAll(yard, "wake", outside(0, 1), yard::wake);
    }

    /** Promise 11: "1 if one that waited was NOTIFIED, else 0" */
    private static void wakeNobody() {
        for (int g = 0; g < 2; g++) {
            PollYard yard = new PollYard();
            Due.spawn(yard, "WAIT " + g);
            yard.spawn(0);
            Due.is("run(2)", yard.run(2), 2);
            Due.is("wake of the other", yard.wake(1 - g), 0);
            Due.is("wake(" + g + ")", yard.wake(g), 1);
            Due.is("wake(" + g + ")", yard.wake(g), 1);
            Due.gate(yard, g, 1, 0, 0, 0, 0);
            Due.is("wake(" + g + ")", yard.wake(g), 0);
            Due.is("wake(" + g + ")", yard.wake(g), 0);
            Due.gate(yard, g, 1, 0, 0, 1, 0);
        }
    }

    /** Promise 12: "REFUSED for others." */
    private static void taskOutOfRange() {
        PollYard yard = busy();
        for (int what = 0; what < 6; what++) {
            for (int t : outside(0, yard.count(1) - 1)) {
                Due.is("task(" + t + ", " + what + ")", yard.task(t, what), REFUSED);
            }
        }
        PollYard other = busy();
        for (int t = 0; t < 7; t++) {
            for (int what : outside(0, 5)) {
                Due.is("task(" + t + ", " + what + ")", other.task(t, what), REFUSED);
            }
        }
        PollYard full = new PollYard();
        Due.program(full, "GIVE 1");
        for (int t = 0; t < 12; t++) {
            full.spawn(0);
        }
        Due.is("task(11, 0)", full.task(11, 0), QUEUED);
        Due.is("task(12, 0)", full.task(12, 0), REFUSED);
    }

    /** Promise 12: "its VALUE, or code (0 if it has not ENDED, or was CANCELLED)" */
    private static void taskOutcomes() {
        PollYard yard = new PollYard();
        Due.spawn(yard, "THEN TURN 1 GIVE -1");
        Due.spawn(yard, "THEN TURN 1 FAIL 97");
        Due.spawn(yard, "THEN GIVE 5 SLEEP 1");
        Due.task(yard, 0, QUEUED, 0);
        Due.is("run(3)", yard.run(3), 3);
        Due.task(yard, 0, QUEUED, 0);
        Due.task(yard, 1, QUEUED, 0);
        Due.task(yard, 2, IDLE, 0);
        Due.is("run(3)", yard.run(3), 2);
        Due.task(yard, 0, DONE, -1);
        Due.task(yard, 1, FAILED, 97);
        Due.is("abort(2)", yard.abort(2), true);
        Due.task(yard, 2, CANCELLED, 0);
    }

    /** Promise 12: "the UNITS left behind its latest polling (4 if there was none)" */
    private static void taskUnits() {
        PollYard yard = new PollYard();
        yard.put(0, 9);
        Due.spawn(yard, "THEN BOTH TAKE 0 BOTH TAKE 0 BOTH TAKE 0 TAKE 0 THEN TURN 1 SLEEP 3");
        Due.spawn(yard, "TAKE 0");
        Due.is("never polled", yard.task(0, 4), 4);
        yard.turn(0);
        Due.is("all used up", yard.task(0, 4), 0);
        yard.turn(0);
        Due.is("none used up", yard.task(0, 4), 4);
        Due.is("abort(1)", yard.abort(1), true);
        Due.is("cancelled and never polled", yard.task(1, 4), 4);
        yard.spawn(1);
        yard.turn(0);
        Due.is("abort(2)", yard.abort(2), false);
        Due.is("ended", yard.task(2, 4), 3);
    }

    /** Promise 12: "where it is QUEUED: 0 nowhere, 1 the INJECTOR, 2 + w the SLOT, 5 + w the RING of worker w." */
    private static void taskPlaces() {
        for (int w = 0; w < 3; w++) {
            PollYard yard = new PollYard();
            Due.program(yard, "SLEEP 1");
            Due.program(yard, "THEN SPAWN 0 THEN SPAWN 0 THEN SPAWN 0 THEN SPAWN 0 THEN SPAWN 0 TURN 1");
            yard.spawn(1);
            Due.is("task(0, 5)", yard.task(0, 5), 1);
            yard.turn(w);
            int[] places = {1, 1, 1, 5 + w, 5 + w, 2 + w};
            for (int t = 0; t < 6; t++) {
                Due.is("task(" + t + ", 5)", yard.task(t, 5), places[t]);
            }
            Due.is("turn(" + w + ")", yard.turn(w), 5);
            Due.task(yard, 5, IDLE, 0, 1, 0, 4, 0);
            Due.is("abort(4)", yard.abort(4), true);
            Due.task(yard, 4, CANCELLED, 0, 0, 0, 4, 0);
        }
    }

    /** Promise 13: "REFUSED for others." */
    private static void workerOutOfRange() {
        PollYard yard = busy();
        for (int what = 0; what < 8; what++) {
            for (int w : outside(0, 2)) {
                Due.is("worker(" + w + ", " + what + ")", yard.worker(w, what), REFUSED);
            }
        }
        PollYard other = busy();
        for (int w = 0; w < 3; w++) {
            for (int what : outside(0, 7)) {
                Due.is("worker(" + w + ", " + what + ")", other.worker(w, what), REFUSED);
            }
        }
    }

    /** Promise 13: "the TASK in its SLOT, -1 if none", "the k-th of these (0 first; k 0..3), -1 if none" */
    private static void workerRing() {
        String row = "";
        for (int others = 1; others <= 5; others++) {
            PollYard yard = new PollYard();
            Due.program(yard, "SLEEP 1");
            Due.spawn(yard, row + "SPAWN 0");
            row += "THEN SPAWN 0 ";
            Due.worker(yard, 1, -1);
            yard.turn(1);
            Due.is("worker(1, 0)", yard.worker(1, 0), others);
            Due.is("worker(1, 2)", yard.worker(1, 2), others - 1);
            for (int k = 0; k < 4; k++) {
                Due.is("worker(1, " + (3 + k) + ")", yard.worker(1, 3 + k), k < others - 1 ? k + 1 : -1);
            }
            Due.worker(yard, 0, -1);
            Due.worker(yard, 2, -1);
        }
    }

    /** Promise 13: "how many TURNS in a row were from its SLOT (up to the latest)" */
    private static void workerSlotTurns() {
        PollYard yard = new PollYard();
        Due.program(yard, "GIVE 1");
        for (int p = 0; p < 5; p++) {
            Due.program(yard, "SPAWN " + p);
        }
        yard.spawn(5);
        for (int i = 0; i < 6; i++) {
            Due.is("turn(0)", yard.turn(0), i);
            Due.is("worker(0, 7)", yard.worker(0, 7), i);
            Due.is("worker(1, 7)", yard.worker(1, 7), 0);
        }
        Due.is("turn(0) of nothing", yard.turn(0), -2);
        Due.is("worker(0, 7)", yard.worker(0, 7), 0);
    }

    /** Promise 14: "REFUSED if there is none." */
    private static void injectedOutOfRange() {
        PollYard yard = new PollYard();
        for (int k : new int[] {LOW, -1, 0, 1, 11, 12, HIGH}) {
            Due.is("injected(" + k + ")", yard.injected(k), REFUSED);
        }
        Due.spawn(yard, "GIVE 1");
        refusedAll(yard, "injected", outside(0, 0), yard::injected);
        Due.is("injected(0)", yard.injected(0), 0);
        yard.turn(0);
        Due.is("injected(0)", yard.injected(0), REFUSED);
    }

    /** Promise 14: "The k-th in the INJECTOR (0 first)": it holds all twelve. */
    private static void injectedAll() {
        PollYard yard = new PollYard();
        Due.program(yard, "WAIT 0");
        for (int t = 0; t < 12; t++) {
            yard.spawn(0);
        }
        Due.injector(yard, 0, 1, 2, 3, 4, 5, 6, 7, 8, 9, 10, 11);
        Due.is("run(5)", yard.run(5), 5);
        yard.wake(0);
        yard.wake(0);
        Due.injector(yard, 5, 6, 7, 8, 9, 10, 11, 0, 1);
    }

    /** Promise 15: "REFUSED if g is not 0..1, or for others." */
    private static void gateOutOfRange() {
        PollYard yard = busy();
        for (int what = 0; what < 5; what++) {
            for (int g : outside(0, 1)) {
                Due.is("gate(" + g + ", " + what + ")", yard.gate(g, what), REFUSED);
            }
        }
        PollYard other = busy();
        for (int g = 0; g < 2; g++) {
            for (int what : outside(0, 4)) {
                Due.is("gate(" + g + ", " + what + ")", other.gate(g, what), REFUSED);
            }
        }
    }

    /** Promise 15: "how many PERMITS the first one that waits has got (0 if none)" */
    private static void gateFirstOfNone() {
        PollYard yard = new PollYard();
        Due.spawn(yard, "TAKE 5");
        Due.spawn(yard, "TAKE 3");
        Due.gate(yard, 1, 1, 0, 0);
        Due.is("run(2)", yard.run(2), 2);
        Due.gate(yard, 1, 0, 2, 1);
        yard.put(1, 1);
        Due.gate(yard, 1, 0, 2, 2);
        yard.put(1, 1);
        Due.gate(yard, 1, 0, 1, 0);
        yard.put(1, 1);
        Due.gate(yard, 1, 0, 1, 1);
        yard.put(1, 1);
        Due.gate(yard, 1, 0, 0, 0);
        Due.gate(yard, 0, 1, 0, 0, 0, 0);
    }

    /** Promise 16: "REFUSED for others." */
    private static void countOutOfRange() {
        PollYard yard = busy();
        refusedAll(yard, "count", outside(0, 7), yard::count);
    }

    /** Promise 16: all eight, each with a number of its own. */
    private static void countAll() {
        PollYard yard = new PollYard();
        Due.program(yard, "SLEEP 40");
        Due.program(yard, "THEN SPAWN 0 THEN SPAWN 0 THEN SPAWN 0 SPAWN 0");
        yard.spawn(1);
        Due.is("turn(0)", yard.turn(0), 0);
        Due.is("turn(1)", yard.turn(1), 1);
        Due.is("turn(1)", yard.turn(1), 2);
        Due.is("turn(2)", yard.turn(2), 3);
        yard.tick(20);
        for (int t = 5; t < 12; t++) {
            yard.spawn(0);
        }
        Due.tokens(yard, "THEN THEN THEN THEN THEN THEN");
        Due.is("abort(11)", yard.abort(11), true);
        Due.counts(yard, 2, 12, 10, 20, 4, 6, 2, 6);
    }

    /** Promise 16: "TASKS; of these not ENDED": the first and the last of twelve, and none. */
    private static void countOfLiving() {
        PollYard yard = new PollYard();
        Due.spawn(yard, "SLEEP 9");
        for (int t = 1; t < 12; t++) {
            yard.spawn(0);
        }
        Due.is("run(12)", yard.run(12), 12);
        for (int t = 1; t < 11; t++) {
            Due.is("abort(" + t + ")", yard.abort(t), true);
            Due.counts(yard, 1, 12, 12 - t);
        }
        Due.is("abort(11)", yard.abort(11), true);
        Due.counts(yard, 1, 12, 1);
        Due.is("abort(0)", yard.abort(0), true);
        Due.counts(yard, 1, 12, 0);
    }

    /** "An object is used for at most 512 calls": up to the last of them it answers. */
    private static void theLastCalls() {
        PollYard ticked = new PollYard();
        PollYard filled = new PollYard();
        PollYard turned = new PollYard();
        for (int i = 1; i <= 510; i++) {
            ticked.tick(20);
            filled.put(1, 9);
            turned.run(30);
        }
        Due.is("the 511th, tick(20)", ticked.tick(20), 511 * 20);
        Due.is("the 512th, tick(20)", ticked.tick(20), 512 * 20);
        Due.is("the 511th, put(1, 9)", filled.put(1, 9), 1 + 511 * 9);
        Due.is("the 512th, put(1, 9)", filled.put(1, 9), 1 + 512 * 9);
        Due.is("the 511th, worker(0, 1)", turned.worker(0, 1), 5100);
        Due.is("the 512th, worker(2, 1)", turned.worker(2, 1), 5100);
    }
}
