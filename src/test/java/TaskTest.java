/** Promises 5, 9 and 12: spawn, abort, task. */
public final class TaskTest {
    private static final int IDLE = PollYard.IDLE, QUEUED = PollYard.QUEUED, DONE = PollYard.DONE;
    private static final int FAILED = PollYard.FAILED, CANCELLED = PollYard.CANCELLED;

    public static void main(String[] args) {
        spawned();
        noRoom();
        told();
        whereQueued();
        abortOfWhatIsNot();
        abortUnqueues();
        abortGivesBack();
        abortGivesNoticeAgain();
        abortWakesReapers();
        abortDropsBeforeItWakes();
        abortKeepsWhatIsReady();
        Due.end();
    }

    private static void spawned() {
        PollYard yard = new PollYard();
        Due.program(yard, "GIVE 4");
        Due.program(yard, "FAIL 4");
        Due.is("spawn(-1)", yard.spawn(-1), PollYard.REFUSED);
        Due.is("spawn(2)", yard.spawn(2), PollYard.REFUSED);
        Due.is("spawn(1)", yard.spawn(1), 0);
        Due.is("spawn(0)", yard.spawn(0), 1);
        Due.is("spawn(1)", yard.spawn(1), 2);
        Due.injector(yard, 0, 1, 2);
        Due.task(yard, 0, QUEUED, 0, 0, 1, 4, 1);
        Due.task(yard, 1, QUEUED, 0, 0, 0, 4, 1);
        Due.task(yard, 2, QUEUED, 0, 0, 1, 4, 1);
    }

    private static void noRoom() {
        PollYard yard = new PollYard();
        Due.program(yard, "GIVE 4");
        for (int t = 0; t < 12; t++) {
            Due.is("spawn(0)", yard.spawn(0), t);
        }
        Due.is("13th spawn(0)", yard.spawn(0), PollYard.FULL);
        Due.is("13th spawn(1)", yard.spawn(1), PollYard.REFUSED);
        Due.is("run(30)", yard.run(30), 12);
        // those that have ended still count
        Due.is("13th spawn(0)", yard.spawn(0), PollYard.FULL);
        Due.is("count(1)", yard.count(1), 12);
        Due.is("count(5)", yard.count(5), 0);
    }

    private static void told() {
        PollYard yard = new PollYard();
        Due.program(yard, "GIVE 1");
        Due.spawn(yard, "THEN TAKE 0 THEN TURN 1 GIVE 77");
        Due.spawn(yard, "THEN TAKE 1 THEN TURN 1 FAIL 66");
        yard.turn(0);
        Due.task(yard, 0, QUEUED, 0, 1, 1, 3, 5);
        yard.turn(0);
        Due.task(yard, 0, DONE, 77, 2, 1, 4, 0);
        yard.turn(0);
        Due.task(yard, 1, QUEUED, 0, 1, 2, 3, 5);
        yard.turn(0);
        Due.task(yard, 1, FAILED, 66, 2, 2, 4, 0);
        Due.is("task(0, -1)", yard.task(0, -1), PollYard.REFUSED);
        Due.is("task(0, 6)", yard.task(0, 6), PollYard.REFUSED);
        Due.is("task(-1, 0)", yard.task(-1, 0), PollYard.REFUSED);
        Due.is("task(2, 0)", yard.task(2, 0), PollYard.REFUSED);
        Due.is("task(12, 0)", yard.task(12, 0), PollYard.REFUSED);
        Due.is("task(MAX, 0)", yard.task(Integer.MAX_VALUE, 0), PollYard.REFUSED);
        Due.is("task(MIN, 0)", yard.task(Integer.MIN_VALUE, 0), PollYard.REFUSED);
    }

    private static void whereQueued() {
        for (int w = 0; w < 3; w++) {
            PollYard yard = new PollYard();
            Due.program(yard, "SLEEP 1");
            Due.spawn(yard, "THEN SPAWN 0 THEN SPAWN 0 TURN 1");
            Due.is("task(0, 5)", yard.task(0, 5), 1);
            yard.turn(w);
            Due.is("task(1, 5)", yard.task(1, 5), 5 + w);
            Due.is("task(2, 5)", yard.task(2, 5), 2 + w);
            Due.is("task(0, 5)", yard.task(0, 5), 5 + w);
            Due.worker(yard, w, 2, 1, 0);
            yard.turn(w);
            Due.task(yard, 2, IDLE, 0, 1, 0, 4, 0);
            yard.tick(1);
            Due.task(yard, 2, QUEUED, 0, 1, 0, 4, 1);
        }
    }

    private static void abortOfWhatIsNot() {
        PollYard yard = new PollYard();
        Due.is("abort(0)", yard.abort(0), false);
        Due.spawn(yard, "GIVE 3");
        Due.spawn(yard, "FAIL 3");
        Due.spawn(yard, "SLEEP 3");
        Due.is("abort(-1)", yard.abort(-1), false);
        Due.is("abort(3)", yard.abort(3), false);
        Due.is("abort(MAX)", yard.abort(Integer.MAX_VALUE), false);
        Due.is("abort(MIN)", yard.abort(Integer.MIN_VALUE), false);
        yard.run(3);
        Due.is("abort(0)", yard.abort(0), false);
        Due.is("abort(1)", yard.abort(1), false);
        Due.is("abort(2)", yard.abort(2), true);
        Due.is("abort(2)", yard.abort(2), false);
        Due.task(yard, 0, DONE, 3);
        Due.task(yard, 1, FAILED, 3);
        Due.task(yard, 2, CANCELLED, 0, 1, 2, 4, 0);
        Due.is("count(2)", yard.count(2), 0);
        yard.tick(3);
        Due.task(yard, 2, CANCELLED, 0, 1, 2, 4, 0);
        Due.is("run(3)", yard.run(3), 0);
    }

    private static void abortUnqueues() {
        PollYard yard = new PollYard();
        Due.program(yard, "TURN 3");
        Due.program(yard, "THEN SPAWN 0 THEN SPAWN 0 THEN SPAWN 0 TURN 3");
        yard.spawn(1);
        yard.turn(0);
        Due.worker(yard, 0, 3, 1, 2, 0);
        Due.is("abort(2)", yard.abort(2), true);
        Due.worker(yard, 0, 3, 1, 0);
        Due.is("abort(3)", yard.abort(3), true);
        Due.worker(yard, 0, -1, 1, 0);
        for (int t = 4; t <= 6; t++) {
            yard.spawn(0);
        }
        Due.is("abort(5)", yard.abort(5), true);
        Due.injector(yard, 4, 6);
        Due.is("abort(4)", yard.abort(4), true);
        Due.is("abort(6)", yard.abort(6), true);
        Due.injector(yard);
        Due.is("turn(0)", yard.turn(0), 1);
        Due.worker(yard, 0, -1, 0, 1);
        Due.is("count(2)", yard.count(2), 2);
    }

    private static void abortGivesBack() {
        PollYard yard = new PollYard();
        // it waits, and has got one of three
        Due.spawn(yard, "TAKE 4");
        Due.spawn(yard, "TAKE 2");
        Due.spawn(yard, "TAKE 0");
        Due.is("run(3)", yard.run(3), 3);
        Due.is("put(0, 1)", yard.put(0, 1), 0);
        Due.is("gate(0, 2)", yard.gate(0, 2), 2);
        Due.is("abort(0)", yard.abort(0), true);
        Due.is("gate(0, 0)", yard.gate(0, 0), 0);
        Due.is("gate(0, 1)", yard.gate(0, 1), 1);
        Due.is("gate(0, 2)", yard.gate(0, 2), 0);
        Due.injector(yard, 1);
        // this one has its permits, but was not polled since
        Due.is("abort(1)", yard.abort(1), true);
        Due.is("gate(0, 0)", yard.gate(0, 0), 1);
        Due.is("gate(0, 1)", yard.gate(0, 1), 0);
        Due.injector(yard, 2);
        Due.is("run(3)", yard.run(3), 1);
        Due.task(yard, 2, DONE, 1);
        Due.is("gate(0, 0)", yard.gate(0, 0), 1);
    }

    private static void abortGivesNoticeAgain() {
        PollYard yard = new PollYard();
        Due.program(yard, "WAIT 0");
        yard.spawn(0);
        yard.spawn(0);
        yard.spawn(0);
        Due.is("run(3)", yard.run(3), 3);
        // one that waits leaves the row and gives nothing
        Due.is("abort(1)", yard.abort(1), true);
        Due.is("gate(0, 4)", yard.gate(0, 4), 2);
        Due.is("gate(0, 3)", yard.gate(0, 3), 0);
        Due.is("wake(0)", yard.wake(0), 1);
        Due.injector(yard, 0);
        Due.is("abort(0)", yard.abort(0), true);
        Due.injector(yard, 2);
        Due.is("gate(0, 4)", yard.gate(0, 4), 0);
        Due.is("gate(0, 3)", yard.gate(0, 3), 0);
        Due.is("abort(2)", yard.abort(2), true);
        Due.injector(yard);
        Due.is("gate(0, 3)", yard.gate(0, 3), 1);
    }

    private static void abortWakesReapers() {
        PollYard yard = new PollYard();
        Due.program(yard, "REAP GIVE 3");
        Due.program(yard, "WAIT 0");
        Due.program(yard, "FIRST REAP GIVE 3 WAIT 1");
        Due.program(yard, "REAP THEN WAIT 1 GIVE 3");
        yard.spawn(0);
        yard.spawn(3);
        yard.spawn(2);
        yard.spawn(1);
        yard.spawn(0);
        Due.is("run(5)", yard.run(5), 5);
        Due.is("abort(3)", yard.abort(3), true);
        // task 1 does not wait for it yet
        Due.injector(yard, 0, 2, 4);
        Due.is("run(3)", yard.run(3), 3);
        Due.task(yard, 0, FAILED, 99);
        Due.task(yard, 2, FAILED, 99);
        Due.task(yard, 4, FAILED, 99);
        Due.task(yard, 1, IDLE, 0, 1);
    }

    private static void abortDropsBeforeItWakes() {
        PollYard yard = new PollYard();
        Due.spawn(yard, "REAP GIVE 1");
        Due.spawn(yard, "BOTH WAIT 1 TAKE 2");
        Due.spawn(yard, "TAKE 0");
        Due.is("run(3)", yard.run(3), 3);
        Due.is("abort(1)", yard.abort(1), true);
        Due.injector(yard, 2, 0);

        // X gives back before Y: the first permit goes to the own Y, which then gives back both
        yard = new PollYard();
        Due.spawn(yard, "BOTH TAKE 4 TAKE 0");
        Due.spawn(yard, "TAKE 2");
        Due.is("run(2)", yard.run(2), 2);
        yard.put(0, 1);
        Due.is("gate(0, 1)", yard.gate(0, 1), 3);
        Due.is("abort(0)", yard.abort(0), true);
        Due.injector(yard, 1);
        Due.is("gate(0, 0)", yard.gate(0, 0), 0);
        Due.is("gate(0, 1)", yard.gate(0, 1), 0);
        Due.task(yard, 0, CANCELLED, 0, 1, 0, 4, 0);
    }

    /** What a part was ready with is used up: only what is not ready gives back. */
    private static void abortKeepsWhatIsReady() {
        PollYard yard = new PollYard();
        yard.wake(0);
        yard.tick(1);
        Due.spawn(yard, "BOTH BOTH WAIT 0 WAIT 1 BOTH TAKE 0 BOTH TAKE 3 SLEEP 9");
        yard.turn(0);
        Due.is("wake(1)", yard.wake(1), 1);
        Due.is("put(1, 1)", yard.put(1, 1), 0);
        yard.turn(0);
        Due.task(yard, 0, IDLE, 0, 2, 0, 2);
        Due.is("abort(0)", yard.abort(0), true);
        for (int g = 0; g < 2; g++) {
            for (int what = 0; what < 5; what++) {
                Due.is("gate(" + g + ", " + what + ")", yard.gate(g, what), 0);
            }
        }
    }
}
