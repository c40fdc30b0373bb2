/** The terms, TASKS, WORKERS, TURN: a test for each sentence that names an edge; the sentence stands above its test. */
public final class EdgesOfWorkersTest {
    private static final int IDLE = PollYard.IDLE, QUEUED = PollYard.QUEUED, DONE = PollYard.DONE;
    private static final int FAILED = PollYard.FAILED, CANCELLED = PollYard.CANCELLED;

    public static void main(String[] args) {
        numberedAsMade();
        wokenWhileQueued();
        wokenWhilePolled();
        wokenWhenEnded();
        notedAndEnded();
        notedIsForgotten();
        reapersByNumber();
        reapersThatDoNotWait();
        slotIsEmptyOrNot();
        ringHasFour();
        ringHasFourAndOneIsNoted();
        ringOverflowsTwice();
        outsideGoesToTheInjector();
        fifthTurn();
        fifthTurnWithAnEmptyInjector();
        twoTurnsFromTheSlot();
        slotWhenThereIsNothingElse();
        inARowIsInterrupted();
        ringThenInjectorThenSlotThenTheft();
        stealsHalfRoundedUp();
        stealsFromBothNeighbours();
        slotsAndInjectorAreNoLoot();
        nothingToSteal();
        Due.end();
    }

    /** A yard in which worker w has polled task 0, which made this many (1 to 6) others that sleep. */
    private static PollYard spawned(int w, int others, String last) {
        PollYard yard = new PollYard();
        Due.program(yard, "SLEEP 9");
        Due.spawn(yard, "THEN SPAWN 0 ".repeat(others) + last);
        Due.is("turn(" + w + ")", yard.turn(w), 0);
        return yard;
    }

    private static void turns(PollYard yard, int w, int... polled) {
        for (int t : polled) {
            Due.is("turn(" + w + ")", yard.turn(w), t);
        }
    }

    /** "TASKS are numbered from 0 on as they are made, 12 at most" */
    private static void numberedAsMade() {
        PollYard yard = new PollYard();
        Due.program(yard, "SLEEP 9");
        Due.program(yard, "BOTH SPAWN 0 SPAWN 2");
        Due.program(yard, "ADD 100 SPAWN 0");
        Due.is("spawn(1)", yard.spawn(1), 0);
        Due.is("spawn(0)", yard.spawn(0), 1);
        turns(yard, 0, 0);
        Due.is("spawn(0)", yard.spawn(0), 4);
        Due.is("task(0, 1)", yard.task(0, 1), 5);
        Due.is("task(2, 3)", yard.task(2, 3), 0);
        Due.is("task(3, 3)", yard.task(3, 3), 2);
        turns(yard, 0, 3);
        Due.is("task(3, 1)", yard.task(3, 1), 105);
        for (int t = 6; t < 12; t++) {
            Due.is("spawn(0)", yard.spawn(0), t);
        }
        Due.is("spawn(0)", yard.spawn(0), PollYard.FULL);
    }

    /** "WAKING one that is IDLE: it is QUEUED; .. else nothing": one that is QUEUED is so once. */
    private static void wokenWhileQueued() {
        PollYard yard = new PollYard();
        Due.spawn(yard, "BOTH SLEEP 1 BOTH SLEEP 2 BOTH WAIT 0 TAKE 2");
        yard.turn(0);
        yard.tick(1);
        yard.tick(1);
        yard.wake(0);
        yard.put(0, 1);
        Due.injector(yard, 0);
        Due.is("run(3)", yard.run(3), 1);
        Due.task(yard, 0, DONE, 3, 2, 0, 2, 0);
    }

    /** "one that is POLLED: it is NOTED": however often, it is QUEUED once behind its polling. */
    private static void wokenWhilePolled() {
        PollYard yard = new PollYard();
        Due.spawn(yard, "BOTH BOTH TURN 1 TURN 1 BOTH BOTH WAIT 0 WAKE 0 BOTH TAKE 2 PUT 0");
        yard.turn(1);
        Due.worker(yard, 1, -1, 0);
        Due.injector(yard);
        turns(yard, 1, 0, -2);
        Due.task(yard, 0, DONE, 3, 2, 0, 2, 0);
    }

    /** "else nothing": one that has ENDED is not queued again. */
    private static void wokenWhenEnded() {
        PollYard yard = new PollYard();
        Due.spawn(yard, "FIRST SLEEP 3 GIVE 1");
        Due.spawn(yard, "BOTH SLEEP 3 FAIL 1");
        Due.spawn(yard, "SLEEP 3");
        Due.is("run(3)", yard.run(3), 3);
        Due.is("abort(2)", yard.abort(2), true);
        yard.tick(3);
        Due.injector(yard);
        Due.task(yard, 0, DONE, 1, 1);
        Due.task(yard, 1, FAILED, 1, 1);
        Due.task(yard, 2, CANCELLED, 0, 1);
    }

    /** "one that is READY or FAILED has ENDED": though it is NOTED. */
    private static void notedAndEnded() {
        PollYard yard = new PollYard();
        Due.spawn(yard, "FIRST TURN 1 GIVE 4");
        Due.spawn(yard, "BOTH TURN 1 FAIL 4");
        turns(yard, 2, 0, 1, -2);
        Due.task(yard, 0, DONE, 4, 1, 0, 4, 0);
        Due.task(yard, 1, FAILED, 4, 1, 1, 4, 0);
    }

    /** "one that is PENDING is IDLE, or, if it is NOTED, QUEUED": noted in this polling, not in one before. */
    private static void notedIsForgotten() {
        PollYard yard = new PollYard();
        Due.spawn(yard, "THEN TURN 1 BOTH SLEEP 1 WAIT 0");
        turns(yard, 0, 0);
        Due.task(yard, 0, QUEUED, 0, 1, 0, 4, 5);
        turns(yard, 0, 0);
        Due.task(yard, 0, IDLE, 0, 2, 0, 4, 0);
        yard.tick(1);
        turns(yard, 0, 0);
        Due.task(yard, 0, IDLE, 0, 3, 0, 4, 0);
    }

    /**
     * "those that REAP it and wait for that are woken, by numbers": once each, in what order ever they began to wait.
     */
    private static void reapersByNumber() {
        PollYard yard = new PollYard();
        Due.spawn(yard, "THEN SLEEP 2 FAIL 5");
        Due.spawn(yard, "BOTH REAP GIVE 0 REAP GIVE 0");
        Due.spawn(yard, "THEN SLEEP 1 REAP GIVE 0");
        Due.spawn(yard, "REAP GIVE 0");
        Due.is("run(4)", yard.run(4), 4);
        yard.tick(1);
        Due.is("run(2)", yard.run(2), 1);
        yard.tick(1);
        turns(yard, 1, 0);
        Due.worker(yard, 1, 3, 1, 2);
        turns(yard, 1, 3, 1, 2, -2);
        for (int t = 1; t <= 3; t++) {
            Due.task(yard, t, FAILED, 5, t == 2 ? 3 : 2);
        }
        // the first of all tasks, and the last
        yard = new PollYard();
        Due.spawn(yard, "REAP GIVE 1");
        Due.spawn(yard, "THEN SLEEP 1 GIVE 6");
        for (int t = 2; t < 12; t++) {
            yard.spawn(t == 11 ? 0 : 1);
        }
        Due.is("run(12)", yard.run(12), 12);
        Due.is("abort(1)", yard.abort(1), true);
        Due.injector(yard, 0, 11);
    }

    /**
     * "those that REAP it and wait for that": not one whose X is pending, whose REAP is dropped, or of another task.
     */
    private static void reapersThatDoNotWait() {
        PollYard yard = new PollYard();
        Due.spawn(yard, "SLEEP 3");
        Due.spawn(yard, "REAP THEN SLEEP 9 GIVE 0");
        Due.spawn(yard, "THEN FIRST REAP GIVE 0 SLEEP 1 SLEEP 9");
        Due.spawn(yard, "REAP GIVE 1");
        Due.is("run(4)", yard.run(4), 4);
        yard.tick(1);
        Due.is("run(2)", yard.run(2), 1);
        Due.task(yard, 2, IDLE, 0, 2);
        yard.tick(2);
        turns(yard, 0, 0);
        Due.worker(yard, 0, -1);
        Due.injector(yard);
        Due.is("count(2)", yard.count(2), 3);
    }

    /** "goes to the SLOT of that worker; what was in there goes to the back of its RING" */
    private static void slotIsEmptyOrNot() {
        for (int w = 0; w < 3; w++) {
            PollYard yard = spawned(w, 1, "GIVE 1");
            Due.worker(yard, w, 1);
            Due.worker(yard, (w + 1) % 3, -1);
            Due.worker(yard, (w + 2) % 3, -1);
            yard = spawned(w, 2, "GIVE 1");
            Due.worker(yard, w, 2, 1);
            Due.injector(yard);
        }
    }

    /**
     * "a RING of at most 4", "If a RING that should take one has 4: its first two, then that one, go to .. the
     * INJECTOR"
     */
    private static void ringHasFour() {
        PollYard yard = spawned(0, 5, "GIVE 1");
        Due.worker(yard, 0, 5, 1, 2, 3, 4);
        Due.injector(yard);
        // the one in the slot is displaced, and there is no room for it
        yard = new PollYard();
        Due.program(yard, "SLEEP 9");
        Due.spawn(yard, "THEN SPAWN 0 ".repeat(5) + "SPAWN 0");
        Due.is("spawn(0)", yard.spawn(0), 1);
        turns(yard, 2, 0);
        Due.worker(yard, 2, 7, 4, 5);
        Due.injector(yard, 1, 2, 3, 6);
    }

    /** "If a RING that should take one has 4": so for one that is NOTED; with three there is room for it. */
    private static void ringHasFourAndOneIsNoted() {
        PollYard yard = spawned(1, 4, "TURN 1");
        Due.worker(yard, 1, 4, 1, 2, 3, 0);
        Due.injector(yard);
        yard = spawned(1, 5, "TURN 1");
        Due.worker(yard, 1, 5, 3, 4);
        Due.injector(yard, 1, 2, 0);
        Due.task(yard, 0, QUEUED, 0, 1, 1, 4, 1);
    }

    /** "If a RING that should take one has 4": twice in one turn, in which eleven are woken. */
    private static void ringOverflowsTwice() {
        PollYard yard = new PollYard();
        Due.spawn(yard, "SLEEP 1");
        Due.program(yard, "REAP GIVE 0");
        for (int t = 1; t < 12; t++) {
            yard.spawn(1);
        }
        Due.is("run(12)", yard.run(12), 12);
        yard.tick(1);
        turns(yard, 1, 0);
        Due.worker(yard, 1, 11, 6, 7, 9, 10);
        Due.injector(yard, 1, 2, 5, 3, 4, 8);
        Due.is("run(30)", yard.run(30), 11);
        Due.is("count(2)", yard.count(2), 0);
    }

    /** "Else it goes to the back of the INJECTOR." */
    private static void outsideGoesToTheInjector() {
        PollYard yard = new PollYard();
        Due.spawn(yard, "WAIT 1");
        Due.spawn(yard, "TAKE 3");
        Due.spawn(yard, "SLEEP 1");
        Due.spawn(yard, "REAP GIVE 4");
        Due.spawn(yard, "BOTH WAIT 0 TAKE 3");
        Due.is("run(5)", yard.run(5), 5);
        yard.tick(1);
        Due.injector(yard, 2);
        Due.is("wake(1)", yard.wake(1), 1);
        Due.injector(yard, 2, 0);
        Due.is("put(1, 2)", yard.put(1, 2), 0);
        Due.injector(yard, 2, 0, 1);
        Due.is("abort(4)", yard.abort(4), true);
        Due.injector(yard, 2, 0, 1, 3);
        Due.is("spawn(0)", yard.spawn(0), 5);
        Due.injector(yard, 2, 0, 1, 3, 5);
        for (int w = 0; w < 3; w++) {
            Due.worker(yard, w, -1);
        }
    }

    /**
     * "If that is a multiple of 5, and the INJECTOR is not empty: its first one.": before slot and ring; at 5 and 10.
     */
    private static void fifthTurn() {
        PollYard yard = new PollYard();
        Due.program(yard, "SLEEP 9");
        Due.program(yard, "THEN SPAWN 0 THEN SPAWN 0 THEN TURN 1 TURN 3");
        turns(yard, 0, -2, -2, -2);
        yard.spawn(1);
        yard.spawn(0);
        yard.spawn(0);
        turns(yard, 0, 0);
        Due.worker(yard, 0, 4, 3, 0);
        Due.is("worker(0, 1)", yard.worker(0, 1), 4);
        turns(yard, 0, 1);
        Due.worker(yard, 0, 4, 3, 0);
        turns(yard, 0, 4, 3, 0, 0);
        Due.is("worker(0, 1)", yard.worker(0, 1), 9);
        Due.worker(yard, 0, -1, 0);
        turns(yard, 0, 2);
        Due.worker(yard, 0, -1, 0);
        turns(yard, 0, 0);
    }

    /** "If that is a multiple of 5, and the INJECTOR is not empty": with an empty one it is a turn like others. */
    private static void fifthTurnWithAnEmptyInjector() {
        for (int slotOrRing = 1; slotOrRing <= 2; slotOrRing++) {
            PollYard yard = new PollYard();
            Due.program(yard, "SLEEP 9");
            turns(yard, 1, -2, -2, -2);
            Due.spawn(yard, slotOrRing == 1 ? "THEN SPAWN 0 TURN 1" : "THEN TURN 1 TURN 1");
            turns(yard, 1, 0, slotOrRing == 1 ? 1 : 0);
            Due.is("worker(1, 1)", yard.worker(1, 1), 5);
            Due.is("worker(1, 7)", yard.worker(1, 7), slotOrRing == 1 ? 1 : 0);
        }
        // and it steals like others
        PollYard yard = spawned(2, 3, "GIVE 1");
        turns(yard, 0, 1, 2, -2, -2);
        Due.is("spawn(1)", yard.spawn(1), 4);
        turns(yard, 2, 3, 4);
        Due.worker(yard, 2, 7, 5, 6);
        turns(yard, 0, 5);
        Due.is("worker(0, 1)", yard.worker(0, 1), 5);
        Due.is("count(6)", yard.count(6), 3);
    }

    /** "the one in its SLOT, .. and fewer than two TURNS before this one in a row were from there; else the .. RING" */
    private static void twoTurnsFromTheSlot() {
        for (int ringOrInjector = 0; ringOrInjector < 2; ringOrInjector++) {
            PollYard yard = new PollYard();
            Due.program(yard, "SLEEP 9");
            for (int p = 0; p < 4; p++) {
                Due.program(yard, "SPAWN " + p);
            }
            if (ringOrInjector == 0) {
                Due.spawn(yard, "THEN SPAWN 0 SPAWN 3");
                turns(yard, 0, 0);
                Due.worker(yard, 0, 2, 1);
                turns(yard, 0, 2, 3);
            } else {
                yard.spawn(4);
                yard.spawn(0);
                turns(yard, 0, 0, 2, 3);
            }
            Due.is("worker(0, 7)", yard.worker(0, 7), 2);
            Due.is("worker(0, 0)", yard.worker(0, 0), 4);
            turns(yard, 0, 1);
            Due.is("worker(0, 7)", yard.worker(0, 7), 0);
            turns(yard, 0, 4);
            Due.is("worker(0, 7)", yard.worker(0, 7), 1);
        }
    }

    /** "else the one in its SLOT": a third time, and more, if ring and injector are empty. */
    private static void slotWhenThereIsNothingElse() {
        PollYard yard = new PollYard();
        Due.program(yard, "SLEEP 9");
        for (int p = 0; p < 5; p++) {
            Due.program(yard, "SPAWN " + p);
        }
        yard.spawn(5);
        turns(yard, 1, 0, 1, 2, 3, 4);
        Due.is("worker(1, 7)", yard.worker(1, 7), 4);
        // more than two in a row, and now there is something else
        Due.is("spawn(0)", yard.spawn(0), 6);
        turns(yard, 1, 6);
        Due.is("worker(1, 7)", yard.worker(1, 7), 0);
        turns(yard, 1, 5);
        Due.is("worker(1, 7)", yard.worker(1, 7), 1);
        Due.is("count(6)", yard.count(6), 0);
    }

    /** "TURNS before this one in a row": of this worker; one that polled nothing, or stole, was not from there. */
    private static void inARowIsInterrupted() {
        PollYard yard = spawned(0, 1, "GIVE 1");
        turns(yard, 0, 1);
        Due.is("worker(0, 7)", yard.worker(0, 7), 1);
        turns(yard, 1, -2);
        Due.is("worker(0, 7)", yard.worker(0, 7), 1);
        turns(yard, 0, -2);
        Due.is("worker(0, 7)", yard.worker(0, 7), 0);

        yard = spawned(0, 1, "GIVE 1");
        turns(yard, 0, 1);
        Due.spawn(yard, "TURN 3");
        turns(yard, 2, 2);
        turns(yard, 0, 2);
        Due.is("count(6)", yard.count(6), 1);
        Due.is("worker(0, 7)", yard.worker(0, 7), 0);
    }

    /** "else the first of its RING; else the first of the INJECTOR; else the one in its SLOT; else it steals" */
    private static void ringThenInjectorThenSlotThenTheft() {
        PollYard yard = new PollYard();
        Due.program(yard, "SLEEP 9");
        for (int p = 0; p < 3; p++) {
            Due.program(yard, "SPAWN " + p);
        }
        Due.spawn(yard, "THEN SPAWN 0 THEN SPAWN 3 TURN 1");
        Due.spawn(yard, "THEN SPAWN 0 SPAWN 0");
        turns(yard, 2, 0);
        Due.worker(yard, 2, 3, 2, 0);
        turns(yard, 1, 1);
        Due.worker(yard, 1, 5, 4);
        yard.spawn(0);
        turns(yard, 2, 3, 7);
        Due.worker(yard, 2, 8, 2, 0);
        turns(yard, 2, 2, 6);
        Due.is("the fifth", yard.worker(2, 1), 5);
        turns(yard, 2, 8, 9, 0);
        Due.is("count(6)", yard.count(6), 0);
        turns(yard, 2, 4);
        Due.is("count(6)", yard.count(6), 1);
        turns(yard, 2, -2);
    }

    /** "half of that, rounded up, from its front; the first of these is it, the others go to its own RING, in order" */
    private static void stealsHalfRoundedUp() {
        for (int ring = 1; ring <= 4; ring++) {
            PollYard yard = spawned(0, ring + 1, "GIVE 1");
            Due.is("worker(0, 2)", yard.worker(0, 2), ring);
            turns(yard, 1, 1);
            int stolen = (ring + 1) / 2;
            Due.is("left of " + ring, yard.worker(0, 2), ring - stolen);
            Due.is("stolen of " + ring, yard.worker(1, 2), stolen - 1);
            for (int k = 0; k < 4; k++) {
                Due.is("the thief's", yard.worker(1, 3 + k), k < stolen - 1 ? k + 2 : -1);
                Due.is("the other's", yard.worker(0, 3 + k), k < ring - stolen ? k + 1 + stolen : -1);
            }
            Due.is("count(6)", yard.count(6), 1);
            Due.is("worker(0, 0)", yard.worker(0, 0), ring + 1);
            Due.is("worker(1, 0)", yard.worker(1, 0), -1);
        }
    }

    /** "of w + 1, then w + 2 (modulo 3), the first whose RING is not empty" */
    private static void stealsFromBothNeighbours() {
        for (int w = 0; w < 3; w++) {
            int next = (w + 1) % 3;
            int last = (w + 2) % 3;
            PollYard yard = new PollYard();
            Due.spawn(yard, "TURN 1");
            yard.spawn(0);
            turns(yard, last, 0);
            turns(yard, next, 1);
            turns(yard, w, 1, 0, -2);
            Due.is("count(6)", yard.count(6), 2);
            Due.task(yard, 0, DONE, 0, 2);
            Due.task(yard, 1, DONE, 0, 2);
        }
    }

    /** "whose RING is not empty": what is in the slot of another worker stays there. */
    private static void slotsAndInjectorAreNoLoot() {
        PollYard yard = spawned(0, 1, "GIVE 1");
        turns(yard, 1, -2);
        turns(yard, 2, -2);
        Due.worker(yard, 0, 1);
        Due.is("count(6)", yard.count(6), 0);
        yard.spawn(0);
        turns(yard, 1, 2);
        Due.is("count(6)", yard.count(6), 0);
    }

    /** "That one is polled. If there is none nothing is." */
    private static void nothingToSteal() {
        PollYard yard = new PollYard();
        for (int i = 1; i <= 6; i++) {
            for (int w = 0; w < 3; w++) {
                turns(yard, w, -2);
                Due.is("worker(" + w + ", 1)", yard.worker(w, 1), i);
                Due.is("worker(" + w + ", 7)", yard.worker(w, 7), 0);
            }
        }
        Due.counts(yard, 0, 0, 0, 0, 0, 0, 0, 0);
        Due.is("run(30)", yard.run(30), 0);
    }
}
