/** The BUDGET that promises 6 and 12 rest on: four units a polling for TAKE, WAIT and REAP. */
public final class BudgetTest {
    private static final int IDLE = PollYard.IDLE, QUEUED = PollYard.QUEUED, DONE = PollYard.DONE;
    private static final String FOUR_TAKES = "THEN TAKE 0 THEN TAKE 0 THEN TAKE 0 THEN TAKE 0 ";
    private static final String FOUR_LATER = "THEN SLEEP 1 THEN TAKE 0 THEN TAKE 0 THEN TAKE 0 TAKE 0 ";

    public static void main(String[] args) {
        unitsLeft();
        whatNeedsNone();
        takeIsAsItWas();
        takeThatHasThem();
        waitIsAsItWas();
        waitThatWasNotified();
        reapIsAsItWas();
        whatIsNotReadyWaits();
        withinAndNoUnit();
        Due.end();
    }

    private static PollYard withPermits() {
        PollYard yard = new PollYard();
        yard.put(0, 9);
        return yard;
    }

    private static void unitsLeft() {
        String[] rows = {"TURN 1", "THEN TAKE 0 TURN 1", "THEN TAKE 0 THEN TAKE 2 TURN 1",
            "THEN TAKE 0 THEN TAKE 0 THEN TAKE 0 TURN 1", FOUR_TAKES + "TURN 1"};
        for (int taken = 0; taken <= 4; taken++) {
            PollYard yard = withPermits();
            Due.spawn(yard, rows[taken]);
            Due.is("task(0, 4)", yard.task(0, 4), 4);
            yard.turn(0);
            Due.task(yard, 0, QUEUED, 0, 1, 0, 4 - taken);
            yard.turn(0);
            Due.task(yard, 0, DONE, 0, 2, 0, 4);
        }
        PollYard yard = withPermits();
        yard.wake(0);
        Due.program(yard, "GIVE 6");
        Due.spawn(yard, "THEN TAKE 0 THEN WAIT 0 REAP SPAWN 0");
        yard.turn(0);
        Due.task(yard, 0, IDLE, 0, 1, 1, 2);
        yard.turn(0);
        yard.turn(0);
        Due.task(yard, 0, DONE, 6, 2, 1, 3);
    }

    private static void whatNeedsNone() {
        PollYard yard = withPermits();
        Due.spawn(yard, FOUR_TAKES + "THEN PUT 1 WAKE 1");
        yard.turn(0);
        Due.task(yard, 0, DONE, 0, 1, 0, 0);
        Due.is("gate(1, 0)", yard.gate(1, 0), 2);
        Due.is("gate(1, 3)", yard.gate(1, 3), 1);
    }

    /** Without a unit a TAKE that begins takes nothing: another may be quicker. */
    private static void takeIsAsItWas() {
        PollYard yard = withPermits();
        Due.spawn(yard, FOUR_TAKES + "TAKE 1");
        Due.spawn(yard, "TAKE 1");
        yard.turn(0);
        Due.task(yard, 0, QUEUED, 0, 1, 0, 0, 5);
        Due.is("gate(1, 0)", yard.gate(1, 0), 1);
        Due.is("gate(1, 1)", yard.gate(1, 1), 0);
        yard.turn(1);
        Due.task(yard, 1, DONE, 1);
        yard.turn(0);
        Due.task(yard, 0, IDLE, 0, 2, 0, 4, 0);
        Due.is("gate(1, 1)", yard.gate(1, 1), 1);
        yard.put(1, 1);
        yard.turn(0);
        Due.task(yard, 0, DONE, 1, 3, 0, 3);

        // and it gives nothing back
        yard = withPermits();
        Due.spawn(yard, FOUR_TAKES + "TAKE 1");
        yard.turn(0);
        yard.abort(0);
        Due.is("gate(1, 0)", yard.gate(1, 0), 1);
        Due.is("gate(0, 0)", yard.gate(0, 0), 6);
    }

    /** Without a unit a TAKE that has its permits keeps them, and gives them back if it is dropped. */
    private static void takeThatHasThem() {
        PollYard yard = withPermits();
        Due.spawn(yard, "BOTH " + FOUR_LATER + "TAKE 3");
        yard.turn(0);
        Due.is("gate(1, 2)", yard.gate(1, 2), 1);
        yard.tick(1);
        Due.is("put(1, 2)", yard.put(1, 2), 1);
        yard.turn(0);
        Due.task(yard, 0, QUEUED, 0, 2, 0, 0, 5);
        Due.is("gate(1, 0)", yard.gate(1, 0), 1);
        yard.turn(0);
        Due.task(yard, 0, DONE, 3, 3, 0, 3);
        Due.is("gate(1, 0)", yard.gate(1, 0), 1);

        yard = withPermits();
        Due.spawn(yard, "BOTH " + FOUR_LATER + "TAKE 3");
        yard.turn(0);
        yard.tick(1);
        yard.put(1, 2);
        yard.turn(0);
        yard.abort(0);
        Due.is("gate(1, 0)", yard.gate(1, 0), 3);
    }

    private static void waitIsAsItWas() {
        PollYard yard = withPermits();
        yard.wake(1);
        Due.spawn(yard, FOUR_TAKES + "WAIT 1");
        yard.turn(2);
        Due.task(yard, 0, QUEUED, 0, 1, 0, 0, 7);
        Due.is("gate(1, 3)", yard.gate(1, 3), 1);
        Due.is("gate(1, 4)", yard.gate(1, 4), 0);
        yard.turn(2);
        Due.task(yard, 0, DONE, 1, 2, 0, 3);
        Due.is("gate(1, 3)", yard.gate(1, 3), 0);
    }

    private static void waitThatWasNotified() {
        PollYard yard = withPermits();
        Due.spawn(yard, "BOTH " + FOUR_LATER + "WAIT 0");
        yard.turn(0);
        yard.tick(1);
        yard.wake(0);
        yard.turn(0);
        Due.task(yard, 0, QUEUED, 0, 2, 0, 0, 5);
        Due.is("gate(0, 3)", yard.gate(0, 3), 0);
        Due.is("gate(0, 4)", yard.gate(0, 4), 0);
        yard.turn(0);
        Due.task(yard, 0, DONE, 2, 3, 0, 3);
    }

    private static void reapIsAsItWas() {
        PollYard yard = withPermits();
        Due.spawn(yard, "GIVE 50");
        yard.turn(0);
        Due.spawn(yard, FOUR_TAKES + "REAP GIVE 0");
        yard.turn(0);
        Due.task(yard, 1, QUEUED, 0, 1, 1, 0, 5);
        yard.turn(0);
        Due.task(yard, 1, DONE, 50, 2, 1, 3);
    }

    /** What would not be ready needs no unit: it waits, and its task is not woken. */
    private static void whatIsNotReadyWaits() {
        PollYard yard = withPermits();
        Due.spawn(yard, FOUR_TAKES + "TAKE 3");
        Due.spawn(yard, "WAIT 0");
        yard.turn(0);
        Due.task(yard, 0, IDLE, 0, 1, 0, 0, 0);
        Due.is("gate(1, 0)", yard.gate(1, 0), 0);
        Due.is("gate(1, 2)", yard.gate(1, 2), 1);

        yard = withPermits();
        Due.spawn(yard, FOUR_TAKES + "WAIT 0");
        yard.turn(0);
        Due.task(yard, 0, IDLE, 0, 1, 0, 0, 0);
        Due.is("gate(0, 4)", yard.gate(0, 4), 1);

        yard = withPermits();
        Due.spawn(yard, "WAIT 0");
        Due.spawn(yard, FOUR_TAKES + "REAP GIVE 0");
        yard.turn(0);
        yard.turn(0);
        Due.task(yard, 1, IDLE, 0, 1, 1, 0, 0);
    }

    /** Pending for want of a unit is pending: the time is up. */
    private static void withinAndNoUnit() {
        PollYard yard = withPermits();
        Due.spawn(yard, "WITHIN 1 THEN SLEEP 1 " + FOUR_TAKES + "TAKE 0");
        yard.turn(0);
        yard.tick(1);
        yard.turn(0);
        Due.task(yard, 0, DONE, -1, 2, 0, 0);
        Due.is("gate(0, 0)", yard.gate(0, 0), 6);
    }
}
