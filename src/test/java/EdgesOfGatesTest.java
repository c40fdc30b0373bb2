/**
 * The terms, BUDGET, GATES, NOTICES and DROPPED: a test for each sentence that names an edge; the sentence stands above
 * its test.
 */
public final class EdgesOfGatesTest {
    private static final int IDLE = PollYard.IDLE, QUEUED = PollYard.QUEUED, DONE = PollYard.DONE;
    private static final int FAILED = PollYard.FAILED, CANCELLED = PollYard.CANCELLED;
    private static final String FOUR_TAKES = "BOTH TAKE 0 BOTH TAKE 0 BOTH TAKE 0 TAKE 0";

    public static void main(String[] args) {
        fourUnits();
        fifthIsPending();
        newUnitsWithEveryPolling();
        noUnitForWhatIsNotReady();
        noUnitForWhatFails();
        onePermitAtFirst();
        enoughJustSo();
        notEnough();
        somebodyWaits();
        waitsOnce();
        upToWhatItWants();
        andSoOn();
        wokenOnlyWithAll();
        notKeptAtFirst();
        keptOnce();
        firstOneIsNotified();
        droppedTakeThatWaits();
        droppedTakeInTheMiddle();
        droppedTakeThatHasThem();
        droppedTakeThatBeganNothing();
        droppedWaitThatWaits();
        droppedWaitThatWasNotified();
        droppedWaitGivesToTheNext();
        droppedInOrder();
        droppedWakesItsOwnTask();
        droppedAllSixLeaves();
        allThatCanWait();
        Due.end();
    }

    private static PollYard withPermits() {
        PollYard yard = new PollYard();
        yard.put(0, 9);
        return yard;
    }

    /** "BUDGET: 4 UNITS whenever a TASK is polled.": four fit. */
    private static void fourUnits() {
        PollYard yard = withPermits();
        Due.spawn(yard, FOUR_TAKES);
        yard.turn(0);
        Due.task(yard, 0, DONE, 4, 1, 0, 0, 0);
        Due.is("gate(0, 0)", yard.gate(0, 0), 6);
        yard = new PollYard();
        yard.wake(0);
        yard.wake(1);
        Due.spawn(yard, "BOTH BOTH WAIT 0 WAIT 1 BOTH TAKE 0 TAKE 1");
        yard.turn(0);
        Due.task(yard, 0, DONE, 4, 1, 0, 0, 0);
    }

    /** "with no UNIT left they are PENDING, their TASK is woken, and they are as they were; else one is used up" */
    private static void fifthIsPending() {
        for (String fifth : new String[] {"TAKE 1", "WAIT 1", "REAP GIVE 0"}) {
            PollYard yard = withPermits();
            yard.wake(1);
            Due.spawn(yard, "GIVE 1");
            yard.turn(1);
            Due.spawn(yard, "BOTH " + FOUR_TAKES + " " + fifth);
            Due.is("turn(1)", yard.turn(1), 1);
            Due.task(yard, 1, QUEUED, 0, 1, 1, 0, 6);
            Due.gate(yard, 1, 1, 0, 0, 1, 0);
            Due.is("turn(1)", yard.turn(1), 1);
            Due.task(yard, 1, DONE, 5, 2, 1, 3, 0);
            Due.is("gate(1, 0)", yard.gate(1, 0), fifth.equals("TAKE 1") ? 0 : 1);
            Due.is("gate(1, 3)", yard.gate(1, 3), fifth.equals("WAIT 1") ? 0 : 1);
        }
    }

    /** "4 UNITS whenever a TASK is polled": what was left is not kept, what was used up is there again. */
    private static void newUnitsWithEveryPolling() {
        PollYard yard = withPermits();
        Due.spawn(yard, "THEN TURN 1 BOTH " + FOUR_TAKES + " TAKE 1");
        yard.turn(0);
        Due.is("task(0, 4)", yard.task(0, 4), 4);
        yard.turn(0);
        Due.task(yard, 0, QUEUED, 0, 2, 0, 0);
        yard.turn(0);
        Due.task(yard, 0, DONE, 5, 3, 0, 3);
    }

    /** "if they would be READY now": without that they wait, with no unit left as with four. */
    private static void noUnitForWhatIsNotReady() {
        for (String fifth : new String[] {"TAKE 3", "WAIT 1", "REAP GIVE 0"}) {
            PollYard yard = withPermits();
            Due.spawn(yard, "SLEEP 9");
            yard.turn(1);
            Due.spawn(yard, "BOTH " + FOUR_TAKES + " " + fifth);
            Due.is("turn(1)", yard.turn(1), 1);
            Due.task(yard, 1, IDLE, 0, 1, 1, 0, 0);
            Due.gate(yard, 1, fifth.equals("TAKE 3") ? 0 : 1, fifth.equals("TAKE 3") ? 1 : 0);
            Due.is("gate(1, 4)", yard.gate(1, 4), fifth.equals("WAIT 1") ? 1 : 0);
        }
    }

    /** "if they would be READY now": a REAP that fails is not, so that it needs no unit. */
    private static void noUnitForWhatFails() {
        PollYard yard = withPermits();
        Due.spawn(yard, "FAIL 12");
        yard.turn(0);
        Due.spawn(yard, "BOTH " + FOUR_TAKES + " REAP GIVE 0");
        Due.spawn(yard, "BOTH " + FOUR_TAKES + " REAP GIVE 7");
        Due.is("turn(0)", yard.turn(0), 1);
        Due.task(yard, 1, FAILED, 12, 1, 1, 0, 0);
        Due.is("turn(0)", yard.turn(0), 2);
        Due.task(yard, 2, FAILED, 98, 1, 2, 0, 0);
    }

    /** "GATES 0, 1 have PERMITS (at first 1)" */
    private static void onePermitAtFirst() {
        for (int g = 0; g < 2; g++) {
            PollYard yard = new PollYard();
            Due.gate(yard, g, 1, 0, 0);
            Due.spawn(yard, "TAKE " + g);
            yard.turn(0);
            Due.gate(yard, g, 0, 0, 0);
            Due.gate(yard, 1 - g, 1, 0, 0);
        }
    }

    /** "if nobody waits and there are enough, it has them": to the last one. */
    private static void enoughJustSo() {
        PollYard yard = new PollYard();
        yard.put(0, 2);
        Due.spawn(yard, "TAKE 4");
        yard.turn(0);
        Due.task(yard, 0, DONE, 3, 1, 0, 3);
        Due.gate(yard, 0, 0, 0, 0);
    }

    /** "else it gets all that are there and waits, at the back, for the rest": two, one, or none of them. */
    private static void notEnough() {
        for (int there = 0; there < 3; there++) {
            PollYard yard = new PollYard();
            Due.spawn(yard, "TAKE 0");
            yard.turn(0);
            if (there > 0) {
                yard.put(0, there);
            }
            Due.spawn(yard, "TAKE 4");
            yard.turn(0);
            Due.task(yard, 1, IDLE, 0, 1, 1, 4, 0);
            Due.gate(yard, 0, 0, 1, there);
            if (there < 2) {
                Due.is("put(0, ..)", yard.put(0, 2 - there), 0);
                Due.gate(yard, 0, 0, 1, 2);
            }
            Due.is("put(0, 1)", yard.put(0, 1), 0);
            Due.gate(yard, 0, 0, 0, 0);
            Due.task(yard, 1, QUEUED, 0, 1, 1, 4, 1);
        }
    }

    /** "if nobody waits": one that comes behind another waits behind it, however little it wants. */
    private static void somebodyWaits() {
        PollYard yard = new PollYard();
        Due.spawn(yard, "TAKE 5");
        Due.spawn(yard, "TAKE 1");
        Due.spawn(yard, "TAKE 3");
        Due.is("run(3)", yard.run(3), 3);
        Due.gate(yard, 1, 0, 3, 1);
        Due.is("put(1, 2)", yard.put(1, 2), 0);
        Due.injector(yard, 0);
        Due.gate(yard, 1, 0, 2, 0);
        Due.is("put(1, 2)", yard.put(1, 2), 0);
        Due.injector(yard, 0, 1);
        Due.gate(yard, 1, 0, 1, 1);
        Due.is("put(1, 2)", yard.put(1, 2), 1);
        Due.injector(yard, 0, 1, 2);
        Due.gate(yard, 1, 1, 0, 0);
    }

    /** "TAKE, polled first": polled again it stays where it is in the row, and takes nothing more from the gate. */
    private static void waitsOnce() {
        PollYard yard = new PollYard();
        Due.spawn(yard, "BOTH TURN 3 BOTH TAKE 4 WAIT 0");
        Due.spawn(yard, "TAKE 0");
        yard.turn(0);
        Due.is("turn(1)", yard.turn(1), 1);
        for (int i = 0; i < 3; i++) {
            Due.gate(yard, 0, 0, 2, 1, 0, 1);
            Due.is("turn(0)", yard.turn(0), 0);
        }
        Due.gate(yard, 0, 0, 2, 1, 0, 1);
        Due.is("put(0, 2)", yard.put(0, 2), 0);
        Due.injector(yard, 0);
    }

    /** "PERMITS that are added go to the first that waits, up to what it wants": fewer, as many, more. */
    private static void upToWhatItWants() {
        for (int k = 1; k <= 9; k++) {
            PollYard yard = new PollYard();
            Due.spawn(yard, "TAKE 4");
            yard.turn(0);
            Due.is("put(0, " + k + ")", yard.put(0, k), Math.max(k - 2, 0));
            Due.gate(yard, 0, Math.max(k - 2, 0), k < 2 ? 1 : 0, k < 2 ? 2 : 0);
            Due.task(yard, 0, k < 2 ? IDLE : QUEUED, 0, 1, 0, 4, k < 2 ? 0 : 1);
        }
    }

    /** "and so on; what is left is there": through the whole row, and beyond. */
    private static void andSoOn() {
        for (int k = 1; k <= 9; k++) {
            PollYard yard = new PollYard();
            Due.program(yard, "TAKE 1");
            Due.program(yard, "TAKE 3");
            yard.spawn(0);
            yard.spawn(1);
            yard.spawn(0);
            yard.spawn(1);
            yard.spawn(1);
            Due.is("run(5)", yard.run(5), 5);
            Due.gate(yard, 1, 0, 4, 0);
            Due.is("put(1, " + k + ")", yard.put(1, k), Math.max(k - 7, 0));
            int served = k < 2 ? 0 : k < 3 ? 1 : k < 5 ? 2 : k < 7 ? 3 : 4;
            int got = k == 1 || k == 4 || k == 6 ? 1 : 0;
            Due.gate(yard, 1, Math.max(k - 7, 0), 4 - served, got);
            Due.is("count(5)", yard.count(5), served);
            for (int i = 0; i < served; i++) {
                Due.is("injected(" + i + ")", yard.injected(i), i + 1);
            }
        }
    }

    /** "with that it has them, waits no more, and its TASK is woken": with less it is not woken. */
    private static void wokenOnlyWithAll() {
        PollYard yard = new PollYard();
        Due.spawn(yard, "TAKE 4");
        yard.turn(0);
        yard.put(0, 1);
        Due.task(yard, 0, IDLE, 0, 1, 0, 4, 0);
        Due.is("run(3)", yard.run(3), 0);
        yard.put(0, 1);
        Due.task(yard, 0, QUEUED, 0, 1, 0, 4, 1);
        Due.is("put(0, 1)", yard.put(0, 1), 1);
        Due.is("run(3)", yard.run(3), 1);
        Due.task(yard, 0, DONE, 3, 2, 0, 3, 0);
        Due.is("gate(0, 0)", yard.gate(0, 0), 1);
    }

    /** "NOTICES 0, 1 are KEPT or not (at first not)" */
    private static void notKeptAtFirst() {
        for (int g = 0; g < 2; g++) {
            PollYard yard = new PollYard();
            Due.gate(yard, g, 1, 0, 0, 0, 0);
            Due.spawn(yard, "WAIT " + g);
            yard.turn(0);
            Due.task(yard, 0, IDLE, 0, 1, 0, 4, 0);
            Due.gate(yard, g, 1, 0, 0, 0, 1);
        }
    }

    /** "if it is KEPT it is so no more, and this was NOTIFIED; else it waits, at the back" */
    private static void keptOnce() {
        PollYard yard = new PollYard();
        for (int i = 0; i < 3; i++) {
            Due.is("wake(0)", yard.wake(0), 0);
        }
        Due.spawn(yard, "WAIT 0");
        yard.spawn(0);
        Due.is("run(2)", yard.run(2), 2);
        Due.task(yard, 0, DONE, 1, 1, 0, 3);
        Due.task(yard, 1, IDLE, 0, 1, 0, 4);
        Due.gate(yard, 0, 1, 0, 0, 0, 1);
    }

    /** "the first that waits was NOTIFIED, waits no more, and its TASK is woken; if nobody waits it is KEPT" */
    private static void firstOneIsNotified() {
        PollYard yard = new PollYard();
        Due.program(yard, "WAIT 1");
        for (int t = 0; t < 3; t++) {
            yard.spawn(0);
        }
        Due.is("run(3)", yard.run(3), 3);
        for (int t = 0; t < 3; t++) {
            Due.is("wake(1)", yard.wake(1), 1);
            Due.is("injected(" + t + ")", yard.injected(t), t);
            Due.gate(yard, 1, 1, 0, 0, 0, 2 - t);
        }
        Due.is("wake(1)", yard.wake(1), 0);
        Due.gate(yard, 1, 1, 0, 0, 1, 0);
        Due.is("run(3)", yard.run(3), 3);
        Due.gate(yard, 1, 1, 0, 0, 1, 0);
    }

    /** "a TAKE that waits leaves the row, what it got is added again": nothing, one, two. */
    private static void droppedTakeThatWaits() {
        for (int got = 0; got < 3; got++) {
            PollYard yard = new PollYard();
            Due.spawn(yard, "TAKE 0");
            yard.turn(0);
            if (got > 0) {
                yard.put(0, got);
            }
            Due.spawn(yard, "TAKE 4");
            yard.turn(0);
            Due.gate(yard, 0, 0, 1, got);
            Due.is("abort(1)", yard.abort(1), true);
            Due.gate(yard, 0, got, 0, 0);
            Due.injector(yard);
        }
        // what it got goes to those behind it
        PollYard yard = new PollYard();
        yard.put(0, 1);
        Due.spawn(yard, "TAKE 4");
        Due.spawn(yard, "TAKE 0");
        yard.spawn(1);
        yard.spawn(1);
        Due.is("run(4)", yard.run(4), 4);
        Due.is("abort(0)", yard.abort(0), true);
        Due.gate(yard, 0, 0, 1, 0);
        Due.injector(yard, 1, 2);
    }

    /** "a TAKE that waits leaves the row": from the middle and from the back; the others keep their order. */
    private static void droppedTakeInTheMiddle() {
        PollYard yard = new PollYard();
        Due.spawn(yard, "TAKE 2");
        for (int t = 1; t < 4; t++) {
            yard.spawn(0);
        }
        Due.is("run(4)", yard.run(4), 4);
        Due.is("abort(1)", yard.abort(1), true);
        Due.gate(yard, 0, 0, 3, 1);
        Due.is("abort(3)", yard.abort(3), true);
        Due.gate(yard, 0, 0, 2, 1);
        Due.is("put(0, 4)", yard.put(0, 4), 1);
        Due.injector(yard, 0, 2);
    }

    /** "one that has its PERMITS, but was not READY yet: they are added again" */
    private static void droppedTakeThatHasThem() {
        for (int a = 2; a <= 5; a++) {
            int g = a % 2;
            PollYard yard = new PollYard();
            Due.spawn(yard, "TAKE " + a);
            Due.spawn(yard, "TAKE " + g);
            yard.turn(0);
            Due.is("put", yard.put(g, a / 2), 0);
            Due.is("turn(0)", yard.turn(0), 1);
            Due.gate(yard, g, 0, 1, 0);
            Due.injector(yard, 0);
            Due.is("abort(0)", yard.abort(0), true);
            // one of them goes to the other task, the rest is there
            Due.gate(yard, g, a / 2, 0, 0);
            Due.injector(yard, 1);
        }
        // one that was ready has used them up
        PollYard yard = new PollYard();
        Due.spawn(yard, "BOTH TAKE 0 SLEEP 9");
        yard.turn(0);
        Due.is("abort(0)", yard.abort(0), true);
        Due.gate(yard, 0, 0, 0, 0);
    }

    /** "they are as they were": dropped for want of a unit, a TAKE or WAIT that began nothing gives nothing back. */
    private static void droppedTakeThatBeganNothing() {
        PollYard yard = withPermits();
        yard.wake(1);
        Due.spawn(yard, "BOTH " + FOUR_TAKES + " BOTH TAKE 1 WAIT 1");
        yard.turn(0);
        Due.task(yard, 0, QUEUED, 0, 1, 0, 0);
        Due.is("abort(0)", yard.abort(0), true);
        Due.gate(yard, 0, 6, 0, 0, 0, 0);
        Due.gate(yard, 1, 1, 0, 0, 1, 0);
        // and so does a task that was never polled
        Due.is("spawn(0)", yard.spawn(0), 1);
        Due.is("abort(1)", yard.abort(1), true);
        Due.gate(yard, 0, 6, 0, 0, 0, 0);
        Due.gate(yard, 1, 1, 0, 0, 1, 0);
    }

    /** "a WAIT that waits leaves the row": first, in the middle, last; and gives no notice. */
    private static void droppedWaitThatWaits() {
        for (int dropped = 0; dropped < 3; dropped++) {
            PollYard yard = new PollYard();
            Due.spawn(yard, "WAIT 0");
            yard.spawn(0);
            yard.spawn(0);
            Due.is("run(3)", yard.run(3), 3);
            Due.is("abort(" + dropped + ")", yard.abort(dropped), true);
            Due.gate(yard, 0, 1, 0, 0, 0, 2);
            Due.is("wake(0)", yard.wake(0), 1);
            Due.is("wake(0)", yard.wake(0), 1);
            Due.is("wake(0)", yard.wake(0), 0);
            Due.injector(yard, dropped == 0 ? 1 : 0, dropped == 2 ? 1 : 2);
        }
    }

    /** "one that was NOTIFIED, but was not READY yet: the notice is given again": it is kept. */
    private static void droppedWaitThatWasNotified() {
        for (int g = 0; g < 2; g++) {
            PollYard yard = new PollYard();
            Due.spawn(yard, "WAIT " + g);
            yard.turn(0);
            Due.is("wake(" + g + ")", yard.wake(g), 1);
            Due.is("abort(0)", yard.abort(0), true);
            Due.gate(yard, g, 1, 0, 0, 1, 0);
            Due.gate(yard, 1 - g, 1, 0, 0, 0, 0);
        }
        // one that was ready has used it up
        PollYard yard = new PollYard();
        yard.wake(0);
        Due.spawn(yard, "BOTH WAIT 0 SLEEP 9");
        yard.turn(0);
        Due.is("abort(0)", yard.abort(0), true);
        Due.gate(yard, 0, 1, 0, 0, 0, 0);
    }

    /** "the notice is given again": the next that waits was notified. */
    private static void droppedWaitGivesToTheNext() {
        PollYard yard = new PollYard();
        Due.spawn(yard, "WAIT 0");
        yard.spawn(0);
        yard.spawn(0);
        Due.is("run(3)", yard.run(3), 3);
        yard.wake(0);
        Due.is("abort(0)", yard.abort(0), true);
        Due.gate(yard, 0, 1, 0, 0, 0, 1);
        Due.injector(yard, 1);
        Due.is("abort(1)", yard.abort(1), true);
        Due.gate(yard, 0, 1, 0, 0, 0, 0);
        Due.injector(yard, 2);
        Due.is("abort(2)", yard.abort(2), true);
        Due.gate(yard, 0, 1, 0, 0, 1, 0);
        Due.injector(yard);
    }

    /** "(Of a FUTURE with parts: X, then Y.)" */
    private static void droppedInOrder() {
        String[] rows = {"BOTH TAKE 2 WAIT 1", "BOTH WAIT 1 TAKE 2", "BOTH BOTH SLEEP 9 WAIT 1 ADD 1 TAKE 2"};
        for (int i = 0; i < 3; i++) {
            PollYard yard = new PollYard();
            Due.spawn(yard, rows[i]);
            Due.spawn(yard, "TAKE 0");
            Due.spawn(yard, "WAIT 1");
            Due.is("run(3)", yard.run(3), 3);
            yard.wake(1);
            Due.is("abort(0)", yard.abort(0), true);
            Due.injector(yard, i == 0 ? 1 : 2, i == 0 ? 2 : 1);
        }
        // in a turn each takes the slot in its order
        for (int i = 0; i < 3; i++) {
            PollYard yard = new PollYard();
            Due.spawn(yard, "FIRST SLEEP 1 " + rows[i]);
            Due.spawn(yard, "TAKE 0");
            Due.spawn(yard, "WAIT 1");
            Due.is("run(3)", yard.run(3), 3);
            yard.tick(1);
            yard.wake(1);
            Due.is("turn(2)", yard.turn(2), 0);
            Due.task(yard, 0, DONE, 0, 2, 0, 4);
            Due.worker(yard, 2, i == 0 ? 2 : 1, i == 0 ? 1 : 2);
        }
    }

    /** "what it got is added again": to another part of the same task, which is noted, since it is polled. */
    private static void droppedWakesItsOwnTask() {
        PollYard yard = new PollYard();
        Due.spawn(yard, "BOTH BOTH FIRST TAKE 2 SLEEP 1 TAKE 0 WAIT 0");
        yard.turn(1);
        Due.gate(yard, 0, 0, 2, 1, 0, 1);
        yard.tick(1);
        Due.is("turn(1)", yard.turn(1), 0);
        // X of the FIRST is dropped; its permit goes to the TAKE behind, which is polled in the same polling
        Due.gate(yard, 0, 0, 0, 0, 0, 1);
        Due.task(yard, 0, QUEUED, 0, 2, 0, 3, 6);
        Due.is("turn(1)", yard.turn(1), 0);
        Due.task(yard, 0, IDLE, 0, 3, 0, 4, 0);
        // a task that is aborted is not woken by itself
        yard = new PollYard();
        Due.spawn(yard, "BOTH TAKE 2 TAKE 0");
        yard.turn(1);
        Due.is("abort(0)", yard.abort(0), true);
        Due.task(yard, 0, CANCELLED, 0, 1, 0, 4, 0);
        Due.gate(yard, 0, 1, 0, 0);
        Due.injector(yard);
    }

    /** All that one task can hold: six leaves that wait, and give all back. */
    private static void droppedAllSixLeaves() {
        PollYard yard = new PollYard();
        Due.spawn(yard, "BOTH BOTH BOTH TAKE 4 TAKE 5 BOTH TAKE 4 TAKE 5 BOTH WAIT 0 WAIT 1");
        yard.turn(0);
        Due.gate(yard, 0, 0, 2, 1, 0, 1);
        Due.gate(yard, 1, 0, 2, 1, 0, 1);
        Due.is("put(0, 3)", yard.put(0, 3), 0);
        Due.gate(yard, 0, 0, 1, 1, 0, 1);
        Due.is("abort(0)", yard.abort(0), true);
        Due.gate(yard, 0, 4, 0, 0, 0, 0);
        Due.gate(yard, 1, 1, 0, 0, 0, 0);
    }

    /** "a row of those that wait": twelve tasks with six each. */
    private static void allThatCanWait() {
        String takes = "BOTH TAKE 4 BOTH TAKE 4 BOTH TAKE 4 BOTH TAKE 4 BOTH TAKE 4 ADD 1 TAKE 4";
        String waits = takes.replace("TAKE 4", "WAIT 0");
        for (int kind = 0; kind < 2; kind++) {
            PollYard yard = new PollYard();
            Due.program(yard, kind == 0 ? takes : waits);
            for (int t = 0; t < 12; t++) {
                yard.spawn(0);
            }
            Due.is("run(12)", yard.run(12), 12);
            Due.is("all that wait", yard.gate(0, kind == 0 ? 1 : 4), 72);
            for (int t = 0; t < 12; t++) {
                Due.is("wake(0)", yard.wake(0), kind);
                Due.is("put(0, 3)", yard.put(0, 3), kind == 0 ? 0 : 4 + 3 * t);
            }
            Due.gate(yard, 0, kind == 0 ? 0 : 37, kind == 0 ? 60 : 0, kind == 0 ? 1 : 0, 1 - kind, 60 * kind);
            for (int t = 0; t < 12; t++) {
                Due.is("abort(" + t + ")", yard.abort(t), true);
            }
            Due.gate(yard, 0, 37, 0, 0, 1, 0);
        }
    }
}
