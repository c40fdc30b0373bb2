/** Promises 8 and 16: tick, count. */
public final class ClockTest {
    private static final int IDLE = PollYard.IDLE, QUEUED = PollYard.QUEUED, DONE = PollYard.DONE;

    public static void main(String[] args) {
        ticks();
        wakesByTimeThenNumber();
        onlyJustThen();
        polledLaterIsDueLater();
        withinIsDue();
        notPolledYet();
        readyIsNotDue();
        droppedIsNotDue();
        counts();
        Due.end();
    }

    private static void ticks() {
        PollYard yard = new PollYard();
        for (int wrong : new int[] {0, -1, 21, Integer.MIN_VALUE, Integer.MAX_VALUE}) {
            Due.is("tick(" + wrong + ")", yard.tick(wrong), PollYard.REFUSED);
        }
        Due.is("count(3)", yard.count(3), 0);
        Due.is("tick(1)", yard.tick(1), 1);
        Due.is("tick(20)", yard.tick(20), 21);
        Due.is("count(3)", yard.count(3), 21);
    }

    private static void wakesByTimeThenNumber() {
        PollYard yard = new PollYard();
        Due.program(yard, "SLEEP 5");
        Due.program(yard, "SLEEP 3");
        yard.spawn(0);
        yard.spawn(1);
        yard.spawn(0);
        yard.spawn(1);
        Due.is("run(4)", yard.run(4), 4);
        Due.is("tick(2)", yard.tick(2), 2);
        Due.injector(yard);
        Due.is("tick(18)", yard.tick(18), 20);
        Due.injector(yard, 1, 3, 0, 2);
    }

    private static void onlyJustThen() {
        PollYard yard = new PollYard();
        Due.spawn(yard, "BOTH SLEEP 40 SLEEP 2");
        yard.turn(0);
        yard.tick(1);
        Due.task(yard, 0, IDLE);
        yard.tick(1);
        Due.task(yard, 0, QUEUED, 0, 1, 0, 4, 1);
        yard.turn(0);
        Due.task(yard, 0, IDLE, 0, 2);
        yard.tick(20);
        yard.tick(17);
        Due.task(yard, 0, IDLE, 0, 2);
        yard.tick(1);
        Due.task(yard, 0, QUEUED, 0, 2);
        yard.turn(0);
        Due.task(yard, 0, DONE, 0, 3);
    }

    /** The time of a sleep runs from its first polling, and from no later one. */
    private static void polledLaterIsDueLater() {
        PollYard yard = new PollYard();
        Due.spawn(yard, "BOTH WAIT 0 THEN SLEEP 2 SLEEP 2");
        yard.tick(3);
        yard.turn(0);
        yard.tick(1);
        yard.wake(0);
        yard.turn(0);
        Due.task(yard, 0, IDLE, 0, 2);
        yard.tick(1);
        Due.task(yard, 0, QUEUED);
        yard.tick(4);
        yard.turn(0);
        Due.task(yard, 0, IDLE, 0, 3);
        yard.tick(1);
        Due.task(yard, 0, IDLE);
        yard.tick(1);
        Due.task(yard, 0, QUEUED);
        yard.turn(0);
        Due.task(yard, 0, DONE, 1, 4);
    }

    private static void withinIsDue() {
        PollYard yard = new PollYard();
        yard.tick(1);
        Due.spawn(yard, "WITHIN 40 WITHIN 3 WAIT 0");
        yard.turn(0);
        yard.tick(2);
        Due.task(yard, 0, IDLE);
        yard.tick(1);
        Due.task(yard, 0, QUEUED, 0, 1, 0, 4, 1);
        yard.turn(0);
        Due.task(yard, 0, DONE, -1, 2);
    }

    private static void notPolledYet() {
        PollYard yard = new PollYard();
        Due.spawn(yard, "THEN WAIT 0 SLEEP 2");
        yard.turn(0);
        yard.tick(5);
        Due.task(yard, 0, IDLE);
        yard.wake(0);
        yard.turn(0);
        Due.task(yard, 0, IDLE, 0, 2);
        yard.tick(2);
        Due.task(yard, 0, QUEUED);
    }

    private static void readyIsNotDue() {
        PollYard yard = new PollYard();
        Due.spawn(yard, "BOTH WITHIN 4 WAIT 0 WAIT 1");
        yard.turn(0);
        yard.wake(0);
        yard.turn(0);
        yard.tick(20);
        Due.task(yard, 0, IDLE, 0, 2);
        yard.wake(1);
        yard.turn(0);
        Due.task(yard, 0, DONE, 2);
    }

    private static void droppedIsNotDue() {
        PollYard yard = new PollYard();
        Due.spawn(yard, "THEN FIRST WAIT 0 BOTH SLEEP 4 WITHIN 5 WAIT 0 WAIT 1");
        yard.turn(0);
        yard.wake(0);
        yard.turn(0);
        Due.task(yard, 0, IDLE, 0, 2);
        yard.tick(20);
        Due.task(yard, 0, IDLE, 0, 2);

        yard = new PollYard();
        Due.spawn(yard, "THEN CATCH BOTH SLEEP 4 THEN WAIT 0 FAIL 1 WAIT 1");
        yard.turn(0);
        yard.wake(0);
        yard.turn(0);
        Due.task(yard, 0, IDLE, 0, 2);
        yard.tick(20);
        Due.task(yard, 0, IDLE, 0, 2);

        yard = new PollYard();
        Due.spawn(yard, "THEN WITHIN 2 SLEEP 4 WAIT 1");
        yard.turn(0);
        yard.tick(2);
        yard.turn(0);
        Due.task(yard, 0, IDLE, 0, 2);
        yard.tick(20);
        Due.task(yard, 0, IDLE, 0, 2);
    }

    private static void counts() {
        PollYard yard = new PollYard();
        Due.program(yard, "GIVE 1");
        Due.spawn(yard, "THEN SPAWN 0 THEN SPAWN 0 TURN 1");
        yard.spawn(0);
        Due.tokens(yard, "THEN GIVE 1 GIVE 2");
        yard.tick(7);
        Due.counts(yard, 2, 2, 2, 7, 0, 2, 0, 3);
        yard.turn(0);
        Due.counts(yard, 2, 4, 4, 7, 1, 1, 0, 3);
        Due.is("run(3)", yard.run(3), 3);
        Due.counts(yard, 2, 4, 1, 7, 4, 0, 1, 3);
        Due.is("run(3)", yard.run(3), 1);
        Due.counts(yard, 2, 4, 0, 7, 5, 0, 1, 3);
        yard.spawn(0);
        yard.abort(4);
        Due.counts(yard, 2, 5, 0, 7, 5, 0, 1, 3);
        for (int wrong : new int[] {-1, 8, Integer.MIN_VALUE, Integer.MAX_VALUE}) {
            Due.is("count(" + wrong + ")", yard.count(wrong), PollYard.REFUSED);
        }
    }
}
