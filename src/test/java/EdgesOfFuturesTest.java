/** The terms, FUTURES: a test for each sentence that names an edge; the sentence stands above its test. */
public final class EdgesOfFuturesTest {
    private static final int LOW = Integer.MIN_VALUE, HIGH = Integer.MAX_VALUE;
    private static final int IDLE = PollYard.IDLE, QUEUED = PollYard.QUEUED, DONE = PollYard.DONE;
    private static final int FAILED = PollYard.FAILED, CANCELLED = PollYard.CANCELLED;

    public static void main(String[] args) {
        sumsWrap();
        readyIsNotPolledAgain();
        failedIsNotPolledAgain();
        droppedIsNotPolledAgain();
        turnsOfAll();
        sleepsOfAll();
        sleepFromItsFirstPolling();
        takesOfAll();
        putsOfAll();
        waitsAndWakesOfBoth();
        spawnOfNoProgram();
        spawnOfTheLastProgram();
        spawnOfTheTwelfth();
        reapOfNoTask();
        reapOfItself();
        reapOfEnded();
        reapAsSoonAsItHasEnded();
        reapOfALaterTask();
        failsOfAll();
        thenPollsYAtOnce();
        bothPollsYThough();
        firstPollsYIfXIsPending();
        withinOfAll();
        withinLooksAtXFirst();
        catchesOfAll();
        failedPartsFailTheWhole();
        failedPartsDropWhatElse();
        Due.end();
    }

    /** "(an int, sums wrap)" */
    private static void sumsWrap() {
        Due.ends("ADD 1 GIVE " + HIGH, DONE, LOW);
        Due.ends("ADD -1 GIVE " + LOW, DONE, HIGH);
        Due.ends("ADD " + HIGH + " GIVE 1", DONE, LOW);
        Due.ends("ADD " + LOW + " GIVE " + LOW, DONE, 0);
        Due.ends("ADD " + HIGH + " ADD " + HIGH + " ADD 2 GIVE 0", DONE, 0);
        Due.ends("BOTH GIVE " + HIGH + " GIVE 1", DONE, LOW);
        Due.ends("BOTH GIVE " + HIGH + " GIVE " + HIGH, DONE, -2);
        Due.ends("BOTH GIVE " + LOW + " GIVE " + LOW, DONE, 0);
        Due.ends("BOTH GIVE " + LOW + " GIVE -1", DONE, HIGH);
        // one that was wrapped names a task like any other
        PollYard yard = new PollYard();
        Due.spawn(yard, "GIVE 8");
        Due.spawn(yard, "REAP ADD " + LOW + " GIVE " + LOW);
        Due.is("run(2)", yard.run(2), 2);
        Due.task(yard, 1, DONE, 8);
    }

    /** "One that is READY or FAILED is not polled any more": READY, in what is polled again. */
    private static void readyIsNotPolledAgain() {
        PollYard yard = new PollYard();
        Due.program(yard, "GIVE 1");
        Due.spawn(yard, "BOTH BOTH PUT 1 SPAWN 0 BOTH TAKE 0 TURN 3");
        for (int polled : new int[] {0, 1, 0, 0, 0}) {
            Due.is("turn(0)", yard.turn(0), polled);
        }
        Due.task(yard, 0, DONE, 2, 4);
        Due.is("count(1)", yard.count(1), 2);
        Due.is("gate(1, 0)", yard.gate(1, 0), 2);
        Due.is("gate(0, 0)", yard.gate(0, 0), 0);
    }

    /**
     * "One that is READY or FAILED is not polled any more": FAILED, in a CATCH that is a part of what is polled
     * again.
     */
    private static void failedIsNotPolledAgain() {
        PollYard yard = new PollYard();
        Due.spawn(yard, "BOTH CATCH THEN PUT 0 FAIL 5 THEN TURN 2 GIVE 100");
        for (int i = 0; i < 3; i++) {
            Due.is("turn(0)", yard.turn(0), 0);
            Due.is("gate(0, 0)", yard.gate(0, 0), 2);
        }
        Due.task(yard, 0, DONE, 95, 3);
    }

    /** "one that is DROPPED is polled no more either, and so are its parts" */
    private static void droppedIsNotPolledAgain() {
        for (String dropping : new String[] {"FIRST BOTH TURN 1 THEN TURN 1 PUT 0 GIVE 4",
            "FIRST ADD 4 TURN 1 BOTH TURN 2 THEN TURN 2 PUT 0",
            "CATCH BOTH BOTH TURN 1 THEN TURN 1 PUT 0 FAIL 4"}) {
            PollYard yard = new PollYard();
            Due.spawn(yard, "BOTH TURN 3 " + dropping);
            for (int i = 0; i < 4; i++) {
                Due.is("turn(0)", yard.turn(0), 0);
            }
            Due.is("outcome of " + dropping, Math.abs(yard.task(0, 1)), 4);
            Due.is("PUT in " + dropping, yard.gate(0, 0), 1);
        }
        PollYard yard = new PollYard();
        Due.spawn(yard, "BOTH WITHIN 1 BOTH SLEEP 2 THEN SLEEP 2 PUT 0 SLEEP 4");
        yard.turn(0);
        for (int i = 0; i < 4; i++) {
            yard.tick(1);
            yard.turn(0);
        }
        Due.task(yard, 0, DONE, -1, 3);
        Due.is("gate(0, 0)", yard.gate(0, 0), 1);
    }

    /** "TURN a (0..3): the first a times PENDING, and its TASK is woken; then READY with 0." */
    private static void turnsOfAll() {
        for (int a = 0; a <= 3; a++) {
            PollYard yard = new PollYard();
            Due.spawn(yard, "TURN " + a);
            for (int i = 0; i < a; i++) {
                Due.is("turn(1)", yard.turn(1), 0);
                Due.task(yard, 0, QUEUED, 0, i + 1, 0, 4, 6);
            }
            Due.is("turn(1)", yard.turn(1), 0);
            Due.task(yard, 0, DONE, 0, a + 1, 0, 4, 0);
        }
    }

    /** "SLEEP a (1..40): READY with 0 when the CLOCK is at least a above what it was": below, at, and above a. */
    private static void sleepsOfAll() {
        for (int a : new int[] {1, 2, 19, 20, 21, 39, 40}) {
            for (int slept = a - 1; slept <= a + 1; slept++) {
                PollYard yard = new PollYard();
                yard.tick(13);
                Due.spawn(yard, "BOTH WAIT 0 SLEEP " + a);
                yard.turn(0);
                for (int i = 0; i < slept; i++) {
                    yard.tick(1);
                }
                yard.wake(0);
                Due.is("turn(0)", yard.turn(0), 0);
                Due.is("SLEEP " + a + " at " + slept, yard.task(0, 0), slept < a ? IDLE : DONE);
                Due.is("SLEEP " + a + " at " + slept, yard.task(0, 1), slept < a ? 0 : 1);
            }
        }
    }

    /** "above what it was when this was polled first": not when the task was made, nor when it was polled again. */
    private static void sleepFromItsFirstPolling() {
        PollYard yard = new PollYard();
        Due.spawn(yard, "THEN TURN 1 BOTH WAIT 0 SLEEP 3");
        yard.tick(5);
        yard.turn(0);
        yard.tick(5);
        yard.turn(0);
        Due.task(yard, 0, IDLE, 0, 2);
        yard.tick(2);
        yard.wake(0);
        yard.turn(0);
        Due.task(yard, 0, IDLE, 0, 3);
        yard.tick(1);
        Due.task(yard, 0, QUEUED, 0, 3, 0, 3, 1);
        yard.turn(0);
        Due.task(yard, 0, DONE, 1, 4);
    }

    /** "TAKE a (0..5: gate a % 2, 1 + a / 2 PERMITS): READY with how many, when it has them.": one less, and enough. */
    private static void takesOfAll() {
        for (int a = 0; a <= 5; a++) {
            int wants = 1 + a / 2;
            int g = a % 2;
            for (int there = wants - 1; there <= wants + 1; there++) {
                PollYard yard = new PollYard();
                Due.spawn(yard, "TAKE " + g);
                yard.turn(0);
                if (there > 0) {
                    yard.put(g, there);
                }
                Due.spawn(yard, "TAKE " + a);
                Due.is("turn(0)", yard.turn(0), 1);
                boolean enough = there >= wants;
                Due.task(yard, 1, enough ? DONE : IDLE, enough ? wants : 0, 1, 1, enough ? 3 : 4, 0);
                Due.gate(yard, g, enough ? there - wants : 0, enough ? 0 : 1, enough ? 0 : there);
                Due.gate(yard, 1 - g, 1, 0, 0);
            }
        }
    }

    /** "PUT a (likewise): adds PERMITS, READY with 0." */
    private static void putsOfAll() {
        for (int a = 0; a <= 5; a++) {
            PollYard yard = new PollYard();
            Due.spawn(yard, "PUT " + a);
            yard.turn(0);
            Due.task(yard, 0, DONE, 0, 1, 0, 4);
            Due.is("the gate of PUT " + a, yard.gate(a % 2, 0), 1 + 1 + a / 2);
            Due.is("not the gate of PUT " + a, yard.gate(1 - a % 2, 0), 1);
        }
    }

    /** "WAIT a (0..1: notice a): READY with 1 when it was NOTIFIED.", "WAKE a (0..1): gives a notice, READY with 0." */
    private static void waitsAndWakesOfBoth() {
        for (int g = 0; g < 2; g++) {
            PollYard yard = new PollYard();
            Due.spawn(yard, "WAIT " + g);
            Due.spawn(yard, "WAIT " + (1 - g));
            Due.spawn(yard, "WAKE " + g);
            Due.is("run(3)", yard.run(3), 3);
            Due.task(yard, 0, QUEUED, 0, 1, 0, 4, 4);
            Due.task(yard, 1, IDLE, 0, 1, 1, 4, 0);
            Due.task(yard, 2, DONE, 0, 1, 2, 4, 0);
            Due.is("turn(2)", yard.turn(2), 0);
            Due.task(yard, 0, DONE, 1, 2, 0, 3, 0);
        }
    }

    /** "SPAWN a (0..5): .. READY with .. -1 if there is no such PROGRAM" */
    private static void spawnOfNoProgram() {
        for (int a = 1; a <= 5; a++) {
            PollYard yard = new PollYard();
            for (int p = 1; p < a; p++) {
                Due.program(yard, "GIVE 1");
            }
            // its own program is the last there is
            Due.spawn(yard, "SPAWN " + a);
            yard.token(0, 1);
            yard.turn(0);
            Due.task(yard, 0, DONE, -1, 1);
            Due.counts(yard, a, 1, 0, 0, 1, 0, 0, 1);
            Due.worker(yard, 0, -1);
        }
        // there is one when it is polled
        PollYard yard = new PollYard();
        Due.spawn(yard, "THEN TURN 1 SPAWN 1");
        yard.turn(0);
        Due.program(yard, "GIVE 1");
        yard.turn(0);
        Due.task(yard, 0, DONE, 1, 2);
        Due.task(yard, 1, QUEUED, 0, 0, 1, 4, 2);
    }

    /** "SPAWN a (0..5): a new TASK of PROGRAM a: READY with its number" */
    private static void spawnOfTheLastProgram() {
        for (int a = 0; a <= 5; a++) {
            PollYard yard = new PollYard();
            for (int p = 0; p < 6; p++) {
                Due.program(yard, p == 0 ? "SPAWN " + a : "GIVE " + p);
            }
            yard.spawn(0);
            yard.turn(2);
            Due.task(yard, 0, DONE, 1, 1, 0);
            Due.task(yard, 1, QUEUED, 0, 0, a, 4, 4);
        }
    }

    /** "or -1 .. or there were 12 TASKS": the twelfth is made, another one not. */
    private static void spawnOfTheTwelfth() {
        PollYard yard = new PollYard();
        Due.program(yard, "GIVE 1");
        Due.program(yard, "BOTH ADD 1000 SPAWN 0 SPAWN 0");
        Due.program(yard, "SPAWN 5");
        for (int t = 0; t < 11; t++) {
            yard.spawn(t < 3 ? t == 2 ? 2 : 1 : 0);
        }
        Due.is("turn(1)", yard.turn(1), 0);
        Due.task(yard, 0, DONE, 1000 + 11 - 1);
        Due.task(yard, 11, QUEUED, 0, 0, 0, 4, 3);
        Due.is("turn(2)", yard.turn(2), 1);
        Due.task(yard, 1, DONE, 1000 - 1 - 1);
        Due.is("turn(2)", yard.turn(2), 2);
        Due.task(yard, 2, DONE, -1);
        Due.is("count(1)", yard.count(1), 12);
    }

    /** "FAILED with 98 if there is no such TASK" */
    private static void reapOfNoTask() {
        for (int number : new int[] {LOW, LOW + 1, -256, -12, -2, -1, 1, 2, 11, 12, 13, 256, 65536, HIGH - 1, HIGH}) {
            Due.ends("REAP GIVE " + number, FAILED, 98);
        }
        Due.ends("REAP SPAWN 1", FAILED, 98);
        PollYard yard = new PollYard();
        for (int t = 0; t < 12; t++) {
            Due.is("spawn", t == 0 ? Due.spawn(yard, "REAP GIVE 12") : yard.spawn(0), t);
        }
        Due.is("run(12)", yard.run(12), 12);
        Due.task(yard, 0, FAILED, 98, 1, 0, 4);
        Due.task(yard, 11, FAILED, 98, 1, 0, 4);
    }

    /** "FAILED with 98 if .. it is this one" */
    private static void reapOfItself() {
        PollYard yard = new PollYard();
        for (int t = 0; t < 4; t++) {
            Due.spawn(yard, "REAP GIVE " + t);
        }
        Due.is("run(4)", yard.run(4), 4);
        for (int t = 0; t < 4; t++) {
            Due.task(yard, t, FAILED, 98, 1, t, 4);
        }
    }

    /** "READY with its VALUE, FAILED with its code, or with 99 if it was CANCELLED": of ones that have ended before. */
    private static void reapOfEnded() {
        PollYard yard = new PollYard();
        Due.spawn(yard, "GIVE " + LOW);
        Due.spawn(yard, "FAIL 1");
        Due.spawn(yard, "FAIL 97");
        Due.spawn(yard, "GIVE 98");
        Due.is("run(3)", yard.run(3), 3);
        Due.is("abort(3)", yard.abort(3), true);
        Due.spawn(yard, "BOTH BOTH CATCH REAP GIVE 1 CATCH REAP GIVE 2 CATCH REAP GIVE 3");
        yard.turn(0);
        Due.task(yard, 4, DONE, -1 - 97 - 99, 1, 4, 4);
        Due.spawn(yard, "REAP GIVE 0");
        yard.turn(0);
        Due.task(yard, 5, DONE, LOW, 1, 5, 3);
    }

    /** "as soon as that has ENDED": pending until then, woken then. */
    private static void reapAsSoonAsItHasEnded() {
        for (int how = 0; how < 3; how++) {
            PollYard yard = new PollYard();
            Due.spawn(yard, how == 0 ? "THEN SLEEP 1 GIVE 44" : "THEN SLEEP 1 FAIL 44");
            Due.spawn(yard, "REAP THEN TURN 1 GIVE 0");
            Due.is("run(2)", yard.run(2), 2);
            Due.is("turn(1)", yard.turn(1), 1);
            Due.task(yard, 1, IDLE, 0, 2, 1, 4, 0);
            yard.tick(1);
            if (how == 2) {
                Due.is("abort(0)", yard.abort(0), true);
                Due.task(yard, 0, CANCELLED, 0);
                Due.injector(yard, 1);
                Due.is("turn(2)", yard.turn(2), 1);
                Due.task(yard, 1, FAILED, 99, 3);
                continue;
            }
            Due.is("turn(2)", yard.turn(2), 0);
            Due.worker(yard, 2, 1);
            Due.is("turn(2)", yard.turn(2), 1);
            Due.task(yard, 1, how == 0 ? DONE : FAILED, 44, 3);
        }
    }

    /** "FAILED with 98 if there is no such TASK": none when X is ready; that one is made later does not help. */
    private static void reapOfALaterTask() {
        PollYard yard = new PollYard();
        Due.spawn(yard, "BOTH TURN 1 CATCH REAP GIVE 1");
        yard.turn(0);
        yard.spawn(0);
        yard.turn(0);
        Due.task(yard, 0, DONE, -98, 2);
    }

    /** "FAIL a (1..97): FAILED with a." */
    private static void failsOfAll() {
        for (int a = 1; a <= 97; a++) {
            Due.ends("FAIL " + a, FAILED, a);
        }
    }

    /** "THEN X Y: X, and once that is READY Y, whose VALUE it has." */
    private static void thenPollsYAtOnce() {
        PollYard yard = new PollYard();
        Due.spawn(yard, "THEN TURN 1 THEN PUT 0 THEN TURN 1 GIVE 6");
        yard.turn(0);
        Due.is("X is pending", yard.gate(0, 0), 1);
        yard.turn(0);
        Due.is("X is ready", yard.gate(0, 0), 2);
        yard.turn(0);
        Due.task(yard, 0, DONE, 6, 3);
        Due.ends("THEN GIVE 5 GIVE 6", DONE, 6);
        // Y of an X that failed is never polled
        yard = new PollYard();
        Due.spawn(yard, "CATCH THEN FAIL 3 PUT 0");
        yard.turn(0);
        Due.task(yard, 0, DONE, -3);
        Due.is("gate(0, 0)", yard.gate(0, 0), 1);
    }

    /** "BOTH X Y: X, if it is not READY yet, then Y likewise; READY with the sum when both are." */
    private static void bothPollsYThough() {
        PollYard yard = new PollYard();
        Due.spawn(yard, "BOTH THEN TURN 2 GIVE 30 THEN TURN 1 THEN PUT 1 GIVE 4");
        yard.turn(0);
        yard.turn(0);
        Due.task(yard, 0, QUEUED, 0, 2);
        Due.is("Y is polled though X is pending", yard.gate(1, 0), 2);
        yard.turn(0);
        Due.task(yard, 0, DONE, 34, 3);
        Due.is("and not when it is ready", yard.gate(1, 0), 2);
        // X ready, Y not yet
        yard = new PollYard();
        Due.spawn(yard, "BOTH THEN PUT 1 GIVE 30 THEN TURN 2 GIVE 5");
        yard.turn(0);
        yard.turn(0);
        Due.task(yard, 0, QUEUED, 0, 2);
        yard.turn(0);
        Due.task(yard, 0, DONE, 35, 3);
        Due.is("gate(1, 0)", yard.gate(1, 0), 2);
    }

    /** "FIRST X Y: X; if that is PENDING Y; READY with the VALUE of the one that is; the other is DROPPED." */
    private static void firstPollsYIfXIsPending() {
        Due.ends("FIRST GIVE 1 GIVE 2", DONE, 1);
        Due.ends("FIRST TURN 1 GIVE 2", DONE, 2);
        Due.ends("FIRST GIVE 1 TURN 1", DONE, 1);
        PollYard yard = new PollYard();
        Due.spawn(yard, "FIRST THEN TURN 2 GIVE 7 THEN PUT 0 TURN 3");
        Due.spawn(yard, "FIRST GIVE 1 PUT 1");
        Due.spawn(yard, "CATCH FIRST FAIL 1 PUT 1");
        Due.is("run(3)", yard.run(3), 3);
        Due.is("Y of a pending X", yard.gate(0, 0), 2);
        Due.is("Y of an X that is not pending", yard.gate(1, 0), 1);
        yard.turn(0);
        Due.task(yard, 0, QUEUED, 0, 2);
        yard.turn(0);
        Due.task(yard, 0, DONE, 7, 3);
        // both would be: X is
        yard = new PollYard();
        Due.spawn(yard, "FIRST THEN TURN 1 GIVE 7 THEN TURN 1 GIVE 8");
        yard.turn(0);
        yard.turn(0);
        Due.task(yard, 0, DONE, 7, 2);
    }

    /** "WITHIN a X (1..40): .. and the CLOCK is at least a above what it was when this was polled first" */
    private static void withinOfAll() {
        for (int a : new int[] {1, 2, 20, 21, 39, 40}) {
            for (int later = a - 1; later <= a + 1; later++) {
                PollYard yard = new PollYard();
                yard.tick(11);
                Due.spawn(yard, "WITHIN " + a + " BOTH WAIT 0 WAIT 1");
                yard.tick(1);
                yard.turn(0);
                for (int i = 0; i < later; i++) {
                    yard.tick(1);
                }
                yard.wake(0);
                Due.is("turn(0)", yard.turn(0), 0);
                Due.is("WITHIN " + a + " at " + later, yard.task(0, 0), later < a ? IDLE : DONE);
                Due.is("WITHIN " + a + " at " + later, yard.task(0, 1), later < a ? 0 : -1);
                Due.is("its other WAIT", yard.gate(1, 4), later < a ? 1 : 0);
            }
        }
    }

    /** "X; if that is PENDING": one that is READY or FAILED just then is not too late. */
    private static void withinLooksAtXFirst() {
        for (int a : new int[] {1, 40}) {
            String[] parts = {"THEN SLEEP % GIVE 5", "THEN SLEEP % FAIL 5", "CATCH THEN SLEEP % FAIL 5"};
            int[] outcomes = {5, 5, -5};
            for (int i = 0; i < 3; i++) {
                PollYard yard = new PollYard();
                Due.spawn(yard, ("WITHIN % " + parts[i]).replace("%", "" + a));
                yard.turn(0);
                for (int k = 0; k < a; k++) {
                    yard.tick(1);
                }
                yard.turn(0);
                Due.task(yard, 0, i == 1 ? FAILED : DONE, outcomes[i], 2);
            }
        }
        // polled first and too late at once it can't be
        Due.ends("FIRST WITHIN 1 SLEEP 1 GIVE 3", DONE, 3);
    }

    /** "CATCH X: X; if that is FAILED READY with -code." */
    private static void catchesOfAll() {
        for (int a = 1; a <= 97; a += 8) {
            Due.ends("CATCH FAIL " + a, DONE, -a);
        }
        Due.ends("CATCH REAP GIVE 0", DONE, -98);
        Due.ends("CATCH CATCH FAIL 9", DONE, -9);
        Due.ends("CATCH GIVE " + LOW, DONE, LOW);
        PollYard yard = new PollYard();
        Due.spawn(yard, "GIVE 1");
        yard.abort(0);
        Due.spawn(yard, "CATCH REAP GIVE 0");
        yard.turn(0);
        Due.task(yard, 1, DONE, -99);
        Due.spawn(yard, "CATCH THEN TURN 1 GIVE 4");
        yard.turn(0);
        Due.task(yard, 2, QUEUED, 0, 1);
        yard.turn(0);
        Due.task(yard, 2, DONE, 4, 2);
    }

    /** "A part that is FAILED makes the whole FAILED with that code at once (but for CATCH)" */
    private static void failedPartsFailTheWhole() {
        for (String whole : new String[] {"REAP FAIL 6", "THEN FAIL 6 GIVE 1", "THEN GIVE 1 FAIL 6",
            "BOTH FAIL 6 FAIL 7", "BOTH GIVE 1 FAIL 6", "BOTH TURN 1 FAIL 6", "FIRST FAIL 6 GIVE 1",
            "FIRST TURN 1 FAIL 6", "WITHIN 9 FAIL 6", "ADD 9 FAIL 6",
            "ADD 1 BOTH TURN 3 THEN GIVE 1 WITHIN 3 FIRST WAIT 0 REAP FAIL 6"}) {
            Due.ends(whole, FAILED, 6);
            Due.ends("CATCH " + whole, DONE, -6);
            Due.ends("ADD 1 ADD 1 " + whole, FAILED, 6);
        }
    }

    /** "what else it has that was polled and is not READY is DROPPED": what was ready keeps, what waited gives back. */
    private static void failedPartsDropWhatElse() {
        for (String whole : new String[] {"BOTH % FAIL 6", "BOTH BOTH % SLEEP 9 FAIL 6", "FIRST % FAIL 6",
            "BOTH ADD 1 WITHIN 9 CATCH % FAIL 6"}) {
            PollYard yard = new PollYard();
            Due.spawn(yard, whole.replace("%", "BOTH TAKE 4 WAIT 0"));
            yard.turn(0);
            Due.task(yard, 0, FAILED, 6, 1);
            Due.gate(yard, 0, 1, 0, 0, 0, 0);
            // and if its X was ready it is not
            yard = new PollYard();
            yard.wake(0);
            Due.spawn(yard, whole.replace("%", "THEN BOTH TAKE 0 WAIT 0 SLEEP 1"));
            yard.turn(0);
            Due.task(yard, 0, FAILED, 6, 1);
            Due.gate(yard, 0, 0, 0, 0, 0, 0);
        }
        // X fails in a later polling: Y, which waits since the first, is dropped
        PollYard yard = new PollYard();
        Due.spawn(yard, "BOTH THEN TURN 1 FAIL 6 BOTH TAKE 5 WAIT 1");
        yard.turn(0);
        Due.gate(yard, 1, 0, 1, 1, 0, 1);
        yard.turn(0);
        Due.task(yard, 0, FAILED, 6, 2);
        Due.gate(yard, 1, 1, 0, 0, 0, 0);
        // and if it was never polled there is nothing to give back
        yard = new PollYard();
        Due.spawn(yard, "BOTH FAIL 6 BOTH TAKE 5 WAIT 1");
        yard.turn(0);
        Due.gate(yard, 1, 1, 0, 0, 0, 0);
    }
}
