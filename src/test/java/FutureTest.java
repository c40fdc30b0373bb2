/** The terms behind promises 5 to 9: what each future is when it is polled, and what it drops. */
public final class FutureTest {
    private static final int IDLE = PollYard.IDLE, QUEUED = PollYard.QUEUED, DONE = PollYard.DONE;
    private static final int FAILED = PollYard.FAILED;

    public static void main(String[] args) {
        atOnce();
        turns();
        sleeps();
        spawns();
        reaps();
        reapOfWhatIsNot();
        thens();
        boths();
        bothDropsWhatElse();
        firsts();
        firstDropsTheOther();
        withins();
        withinDrops();
        Due.end();
    }

    /** Futures that end with their first polling. */
    private static void atOnce() {
        Due.ends("GIVE -7", DONE, -7);
        Due.ends("GIVE 2147483647", DONE, 2147483647);
        Due.ends("TURN 0", DONE, 0);
        Due.ends("TAKE 0", DONE, 1);
        Due.ends("TAKE 1", DONE, 1);
        Due.ends("PUT 5", DONE, 0);
        Due.ends("WAKE 1", DONE, 0);
        Due.ends("THEN WAKE 1 WAIT 1", DONE, 1);
        Due.ends("SPAWN 0", DONE, 1);
        Due.ends("SPAWN 1", DONE, -1);
        Due.ends("FAIL 1", FAILED, 1);
        Due.ends("FAIL 97", FAILED, 97);
        Due.ends("ADD 5 GIVE 3", DONE, 8);
        Due.ends("ADD 1 GIVE 2147483647", DONE, -2147483648);
        Due.ends("BOTH GIVE -2147483648 GIVE -1", DONE, 2147483647);
        Due.ends("ADD 5 FAIL 3", FAILED, 3);
        Due.ends("CATCH FAIL 9", DONE, -9);
        Due.ends("CATCH GIVE 9", DONE, 9);
        Due.ends("CATCH ADD 1 THEN FAIL 9 GIVE 1", DONE, -9);
        Due.ends("THEN CATCH FAIL 9 FAIL 8", FAILED, 8);
        Due.ends("WITHIN 1 GIVE 4", DONE, 4);
        Due.ends("WITHIN 1 FAIL 4", FAILED, 4);
        Due.ends("REAP FAIL 4", FAILED, 4);
        Due.ends("THEN GIVE 1 GIVE 2", DONE, 2);
        Due.ends("THEN FAIL 1 GIVE 2", FAILED, 1);
        Due.ends("BOTH GIVE 1 GIVE 2", DONE, 3);
        Due.ends("BOTH FAIL 1 FAIL 2", FAILED, 1);
        Due.ends("BOTH GIVE 1 FAIL 2", FAILED, 2);
        Due.ends("FIRST GIVE 1 GIVE 2", DONE, 1);
        Due.ends("FIRST FAIL 1 GIVE 2", FAILED, 1);
        Due.ends("FIRST SLEEP 1 GIVE 2", DONE, 2);
        Due.ends("FIRST SLEEP 1 FAIL 2", FAILED, 2);
        for (String whole : new String[] {"CATCH ", "WITHIN 9 ", "ADD 0 "}) {
            Due.ends(whole.repeat(11) + "GIVE 6", DONE, 6);
        }
        Due.ends("THEN GIVE 1 THEN GIVE 1 THEN GIVE 1 THEN GIVE 1 THEN GIVE 1 GIVE 8", DONE, 8);
        Due.ends("FIRST FIRST FIRST FIRST FIRST GIVE 7 GIVE 1 GIVE 1 GIVE 1 GIVE 1 GIVE 1", DONE, 7);
        Due.ends("BOTH BOTH BOTH GIVE 1 GIVE 2 GIVE 4 BOTH GIVE 8 BOTH GIVE 16 GIVE 32", DONE, 63);
    }

    private static void turns() {
        PollYard yard = new PollYard();
        Due.spawn(yard, "ADD 6 TURN 3");
        for (int polls = 1; polls <= 3; polls++) {
            Due.is("turn(2)", yard.turn(2), 0);
            Due.task(yard, 0, QUEUED, 0, polls, 0, 4, 7);
        }
        Due.is("turn(2)", yard.turn(2), 0);
        Due.task(yard, 0, DONE, 6, 4, 0, 4, 0);
        Due.is("turn(2)", yard.turn(2), -2);
    }

    private static void sleeps() {
        PollYard yard = new PollYard();
        yard.tick(20);
        Due.spawn(yard, "FIRST TURN 1 SLEEP 2");
        Due.spawn(yard, "BOTH SLEEP 2 WAIT 0");
        yard.turn(0);
        yard.turn(1);
        Due.task(yard, 1, IDLE, 0, 1, 1, 4, 0);
        yard.tick(1);
        yard.wake(0);
        Due.task(yard, 1, QUEUED, 0, 1, 1, 4, 1);
        yard.turn(1);
        Due.task(yard, 1, IDLE, 0, 2, 1, 3, 0);
        yard.tick(1);
        yard.turn(1);
        Due.task(yard, 1, DONE, 1, 3);
    }

    private static void spawns() {
        PollYard yard = new PollYard();
        Due.program(yard, "GIVE 5");
        Due.spawn(yard, "SPAWN 0");
        Due.spawn(yard, "SPAWN 5");
        yard.turn(1);
        Due.task(yard, 0, DONE, 2);
        Due.task(yard, 2, QUEUED, 0, 0, 0, 4, 3);
        yard.turn(2);
        Due.task(yard, 1, DONE, -1);
        Due.is("count(1)", yard.count(1), 3);
        for (int t = 3; t < 11; t++) {
            yard.spawn(0);
        }
        Due.is("the 12th task", yard.spawn(1), 11);
        Due.is("run(30)", yard.run(30), 10);
        Due.task(yard, 11, DONE, -1);
        Due.is("count(1)", yard.count(1), 12);
    }

    private static void reaps() {
        PollYard yard = new PollYard();
        Due.program(yard, "WAIT 0");
        Due.program(yard, "THEN WAIT 1 FAIL 33");
        Due.spawn(yard, "REAP SPAWN 0");
        Due.spawn(yard, "REAP SPAWN 1");
        Due.program(yard, "REAP GIVE 0");
        Due.program(yard, "REAP GIVE 1");
        Due.is("run(12)", yard.run(12), 4);
        Due.task(yard, 0, IDLE, 0, 1, 2, 4, 0);
        yard.spawn(4);
        yard.spawn(5);
        Due.is("run(6)", yard.run(6), 2);
        Due.is("wake(0)", yard.wake(0), 1);
        Due.is("wake(1)", yard.wake(1), 1);
        Due.is("run(12)", yard.run(12), 6);
        Due.task(yard, 0, DONE, 1, 2, 2, 3);
        Due.task(yard, 1, FAILED, 33, 2, 3, 4);
        Due.task(yard, 4, DONE, 1, 2, 4, 3);
        Due.task(yard, 5, FAILED, 33, 2, 5, 4);
        // those that come too late wait for nothing
        yard.spawn(4);
        yard.spawn(5);
        Due.is("run(3)", yard.run(3), 2);
        Due.task(yard, 6, DONE, 1, 1);
        Due.task(yard, 7, FAILED, 33, 1);
    }

    private static void reapOfWhatIsNot() {
        Due.ends("REAP GIVE 0", FAILED, 98);
        Due.ends("REAP GIVE 1", FAILED, 98);
        Due.ends("REAP GIVE -1", FAILED, 98);
        Due.ends("REAP GIVE 2147483647", FAILED, 98);
        Due.ends("REAP GIVE -2147483648", FAILED, 98);
        Due.ends("REAP SPAWN 3", FAILED, 98);
        PollYard yard = new PollYard();
        Due.spawn(yard, "SLEEP 9");
        Due.spawn(yard, "REAP GIVE 0");
        Due.spawn(yard, "CATCH REAP GIVE 1");
        Due.is("run(6)", yard.run(6), 3);
        Due.is("abort(0)", yard.abort(0), true);
        Due.injector(yard, 1);
        Due.is("run(6)", yard.run(6), 2);
        Due.task(yard, 1, FAILED, 99);
        Due.task(yard, 2, DONE, -99);
    }

    /** Y is polled in the same polling that makes X ready, and X not once more. */
    private static void thens() {
        PollYard yard = new PollYard();
        Due.spawn(yard, "THEN TURN 1 THEN PUT 0 TURN 1");
        yard.turn(0);
        Due.is("gate(0, 0)", yard.gate(0, 0), 1);
        yard.turn(0);
        Due.task(yard, 0, QUEUED, 0, 2);
        Due.is("gate(0, 0)", yard.gate(0, 0), 2);
        yard.turn(0);
        Due.task(yard, 0, DONE, 0, 3);
        Due.is("gate(0, 0)", yard.gate(0, 0), 2);
    }

    /** Both parts are polled, X first, and what is ready not once more. */
    private static void boths() {
        PollYard yard = new PollYard();
        Due.spawn(yard, "BOTH TURN 1 THEN PUT 2 SLEEP 1");
        yard.turn(0);
        Due.is("gate(0, 0)", yard.gate(0, 0), 3);
        yard.turn(0);
        Due.task(yard, 0, IDLE, 0, 2);
        yard.tick(1);
        yard.turn(0);
        Due.task(yard, 0, DONE, 0, 3);
        Due.is("gate(0, 0)", yard.gate(0, 0), 3);
        Due.ends("BOTH TAKE 0 ADD 10 TAKE 1", DONE, 12);
    }

    private static void bothDropsWhatElse() {
        PollYard yard = new PollYard();
        Due.spawn(yard, "BOTH TAKE 2 THEN SLEEP 1 FAIL 5");
        yard.turn(0);
        Due.is("gate(0, 0)", yard.gate(0, 0), 0);
        Due.is("gate(0, 2)", yard.gate(0, 2), 1);
        yard.tick(1);
        yard.turn(0);
        Due.task(yard, 0, FAILED, 5);
        Due.is("gate(0, 0)", yard.gate(0, 0), 1);
        Due.is("gate(0, 1)", yard.gate(0, 1), 0);

        // X fails: Y is dropped, and not polled before that
        yard = new PollYard();
        Due.spawn(yard, "CATCH BOTH THEN TURN 1 FAIL 6 THEN TURN 1 PUT 0");
        yard.turn(0);
        yard.turn(0);
        Due.task(yard, 0, DONE, -6, 2);
        Due.is("gate(0, 0)", yard.gate(0, 0), 1);

        // X fails while Y waits: Y gives back what it got
        yard = new PollYard();
        Due.spawn(yard, "BOTH THEN SLEEP 1 FAIL 5 BOTH TAKE 2 WAIT 1");
        yard.turn(0);
        Due.is("gate(0, 2)", yard.gate(0, 2), 1);
        yard.tick(1);
        yard.turn(0);
        Due.task(yard, 0, FAILED, 5);
        Due.is("gate(0, 0)", yard.gate(0, 0), 1);
        Due.is("gate(0, 1)", yard.gate(0, 1), 0);
        Due.is("gate(1, 4)", yard.gate(1, 4), 0);

        // what is ready keeps what it has
        yard = new PollYard();
        Due.spawn(yard, "BOTH TAKE 0 FAIL 5");
        yard.turn(0);
        Due.task(yard, 0, FAILED, 5);
        Due.is("gate(0, 0)", yard.gate(0, 0), 0);
    }

    private static void firsts() {
        PollYard yard = new PollYard();
        Due.spawn(yard, "FIRST WAIT 0 WAIT 1");
        yard.turn(0);
        Due.task(yard, 0, IDLE, 0, 1);
        yard.wake(0);
        yard.wake(1);
        yard.turn(0);
        Due.task(yard, 0, DONE, 1, 2);
        // Y was notified and never ready: its notice is given again
        Due.is("gate(0, 3)", yard.gate(0, 3), 0);
        Due.is("gate(1, 3)", yard.gate(1, 3), 1);

        // if X is not pending Y is not polled
        yard = new PollYard();
        Due.spawn(yard, "FIRST GIVE 3 PUT 0");
        yard.turn(0);
        Due.task(yard, 0, DONE, 3);
        Due.is("gate(0, 0)", yard.gate(0, 0), 1);
    }

    private static void firstDropsTheOther() {
        PollYard yard = new PollYard();
        Due.spawn(yard, "FIRST TAKE 4 THEN SLEEP 1 GIVE 8");
        Due.spawn(yard, "TAKE 0");
        Due.is("run(2)", yard.run(2), 2);
        Due.is("gate(0, 1)", yard.gate(0, 1), 2);
        yard.tick(1);
        Due.is("turn(2)", yard.turn(2), 0);
        Due.task(yard, 0, DONE, 8);
        Due.task(yard, 1, QUEUED, 0, 1, 1, 4, 4);
        Due.is("gate(0, 0)", yard.gate(0, 0), 0);
        Due.is("turn(2)", yard.turn(2), 1);
        Due.task(yard, 1, DONE, 1);

        // a failure drops the other one too
        yard = new PollYard();
        Due.spawn(yard, "CATCH FIRST TAKE 4 THEN SLEEP 1 FAIL 8");
        yard.turn(0);
        yard.tick(1);
        yard.turn(0);
        Due.task(yard, 0, DONE, -8);
        Due.is("gate(0, 0)", yard.gate(0, 0), 1);
        Due.is("gate(0, 1)", yard.gate(0, 1), 0);
    }

    private static void withins() {
        PollYard yard = new PollYard();
        yard.tick(3);
        Due.spawn(yard, "WITHIN 2 ADD 9 SLEEP 2");
        Due.spawn(yard, "WITHIN 2 SLEEP 3");
        Due.spawn(yard, "WITHIN 2 BOTH WAIT 0 SLEEP 2");
        Due.spawn(yard, "ADD 4 WITHIN 2 TAKE 5");
        Due.is("run(4)", yard.run(4), 4);
        yard.tick(1);
        Due.is("wake(0)", yard.wake(0), 1);
        Due.is("run(3)", yard.run(3), 1);
        Due.task(yard, 2, IDLE, 0, 2);
        yard.tick(1);
        Due.injector(yard, 0, 1, 2, 3);
        Due.is("run(4)", yard.run(4), 4);
        Due.task(yard, 0, DONE, 9, 2);
        Due.task(yard, 1, DONE, -1, 2);
        Due.task(yard, 2, DONE, 1, 3);
        Due.task(yard, 3, DONE, 3, 2);
    }

    /** X is polled before the clock is looked at; what it got goes back. */
    private static void withinDrops() {
        PollYard yard = new PollYard();
        Due.spawn(yard, "WITHIN 2 BOTH TAKE 3 WAIT 1");
        yard.turn(0);
        Due.is("gate(1, 2)", yard.gate(1, 2), 1);
        Due.is("gate(1, 4)", yard.gate(1, 4), 1);
        yard.tick(5);
        yard.turn(0);
        Due.task(yard, 0, DONE, -1, 2);
        Due.is("gate(1, 0)", yard.gate(1, 0), 1);
        Due.is("gate(1, 1)", yard.gate(1, 1), 0);
        Due.is("gate(1, 4)", yard.gate(1, 4), 0);

        yard = new PollYard();
        Due.spawn(yard, "WITHIN 2 WAIT 1");
        yard.turn(0);
        yard.tick(5);
        yard.wake(1);
        yard.turn(0);
        Due.task(yard, 0, DONE, 1, 2);
    }
}
