/** Promises 6, 7, 13 and 14, and the terms of workers: turn, run, worker, injected. */
public final class TurnTest {
    private static final int QUEUED = PollYard.QUEUED, DONE = PollYard.DONE;

    public static void main(String[] args) {
        wrongInputs();
        nothingToPoll();
        slotTwiceThenRing();
        slotTwiceThenInjector();
        slotIfThereIsNothingElse();
        everyFifthTurn();
        fifthTurnWithoutInjector();
        ringBeforeInjector();
        injectorBeforeStealing();
        stealsHalf();
        stealsFromTheNextFirst();
        slotIsNotStolen();
        displacedGoesToRing();
        displacedFromFullRing();
        notedGoesToRing();
        notedWithFullRing();
        wokenGoesToSlot();
        outsideGoesToInjector();
        runGoesRound();
        Due.end();
    }

    /**
     * A task of worker w that leaves this many others, of GIVE, queued: the last in the slot, the others in the ring.
     */
    private static PollYard withSpawned(int w, int others) {
        PollYard yard = new PollYard();
        Due.program(yard, "GIVE 1");
        StringBuilder words = new StringBuilder();
        for (int i = 1; i < others; i++) {
            words.append("THEN SPAWN 0 ");
        }
        Due.spawn(yard, words + "SPAWN 0");
        Due.is("turn(" + w + ")", yard.turn(w), 0);
        return yard;
    }

    private static void wrongInputs() {
        PollYard yard = new PollYard();
        Due.spawn(yard, "GIVE 1");
        for (int wrong : new int[] {-1, 3, Integer.MIN_VALUE, Integer.MAX_VALUE}) {
            Due.is("turn(" + wrong + ")", yard.turn(wrong), PollYard.REFUSED);
            Due.is("worker(" + wrong + ", 0)", yard.worker(wrong, 0), PollYard.REFUSED);
        }
        for (int wrong : new int[] {0, -1, 31, Integer.MIN_VALUE, Integer.MAX_VALUE}) {
            Due.is("run(" + wrong + ")", yard.run(wrong), PollYard.REFUSED);
        }
        for (int wrong : new int[] {-1, 8, Integer.MIN_VALUE, Integer.MAX_VALUE}) {
            Due.is("worker(0, " + wrong + ")", yard.worker(0, wrong), PollYard.REFUSED);
        }
        for (int wrong : new int[] {-1, 1, 12, Integer.MIN_VALUE, Integer.MAX_VALUE}) {
            Due.is("injected(" + wrong + ")", yard.injected(wrong), PollYard.REFUSED);
        }
        for (int w = 0; w < 3; w++) {
            Due.is("worker(" + w + ", 1)", yard.worker(w, 1), 0);
        }
        Due.injector(yard, 0);
        Due.is("run(1)", yard.run(1), 1);
        Due.is("worker(0, 1)", yard.worker(0, 1), 1);
    }

    private static void nothingToPoll() {
        PollYard yard = new PollYard();
        Due.is("turn(1)", yard.turn(1), -2);
        Due.is("turn(1)", yard.turn(1), -2);
        Due.is("worker(1, 1)", yard.worker(1, 1), 2);
        Due.is("run(30)", yard.run(30), 0);
        Due.is("worker(1, 1)", yard.worker(1, 1), 12);
        Due.is("count(4)", yard.count(4), 0);
    }

    private static void slotTwiceThenRing() {
        PollYard yard = new PollYard();
        Due.program(yard, "GIVE 1");
        Due.program(yard, "SPAWN 0");
        Due.program(yard, "SPAWN 1");
        Due.spawn(yard, "THEN SPAWN 0 SPAWN 2");
        Due.is("turn(0)", yard.turn(0), 0);
        Due.worker(yard, 0, 2, 1);
        Due.is("worker(0, 7)", yard.worker(0, 7), 0);
        Due.is("turn(0)", yard.turn(0), 2);
        Due.is("worker(0, 7)", yard.worker(0, 7), 1);
        Due.is("turn(0)", yard.turn(0), 3);
        Due.is("worker(0, 7)", yard.worker(0, 7), 2);
        Due.worker(yard, 0, 4, 1);
        Due.is("turn(0)", yard.turn(0), 1);
        Due.is("worker(0, 7)", yard.worker(0, 7), 0);
        Due.is("turn(0)", yard.turn(0), 4);
        Due.is("worker(0, 7)", yard.worker(0, 7), 1);
        Due.is("turn(0)", yard.turn(0), -2);
        Due.is("worker(0, 7)", yard.worker(0, 7), 0);
    }

    private static PollYard chain() {
        PollYard yard = new PollYard();
        Due.program(yard, "GIVE 1");
        for (int p = 0; p < 4; p++) {
            Due.program(yard, "SPAWN " + p);
        }
        return yard;
    }

    private static void slotTwiceThenInjector() {
        PollYard yard = chain();
        yard.spawn(3);
        yard.spawn(0);
        Due.is("turn(2)", yard.turn(2), 0);
        Due.is("turn(2)", yard.turn(2), 2);
        Due.is("turn(2)", yard.turn(2), 3);
        Due.worker(yard, 2, 4);
        Due.is("turn(2)", yard.turn(2), 1);
        Due.is("worker(2, 7)", yard.worker(2, 7), 0);
        Due.is("turn(2)", yard.turn(2), 4);
    }

    private static void slotIfThereIsNothingElse() {
        PollYard yard = chain();
        yard.spawn(4);
        Due.is("turn(1)", yard.turn(1), 0);
        for (int t = 1; t <= 4; t++) {
            Due.is("turn(1)", yard.turn(1), t);
            Due.is("worker(1, 7)", yard.worker(1, 7), t);
        }
        Due.is("turn(1)", yard.turn(1), -2);
        Due.is("worker(1, 7)", yard.worker(1, 7), 0);

        // it does not steal while its slot has one
        yard = chain();
        Due.program(yard, "THEN TURN 1 THEN TURN 1 TURN 1");
        yard.spawn(3);
        yard.spawn(5);
        Due.is("turn(1)", yard.turn(1), 0);
        Due.is("turn(2)", yard.turn(2), 1);
        Due.worker(yard, 2, -1, 1);
        for (int t = 2; t <= 4; t++) {
            Due.is("turn(1)", yard.turn(1), t);
        }
        Due.is("count(6)", yard.count(6), 0);
        Due.is("turn(1)", yard.turn(1), 1);
        Due.is("count(6)", yard.count(6), 1);
        Due.is("worker(1, 7)", yard.worker(1, 7), 0);
    }

    private static void everyFifthTurn() {
        PollYard yard = chain();
        for (int i = 0; i < 3; i++) {
            Due.is("turn(0)", yard.turn(0), -2);
        }
        Due.program(yard, "THEN SPAWN 2 TURN 1");
        yard.spawn(5);
        yard.spawn(0);
        yard.spawn(0);
        Due.is("4th turn(0)", yard.turn(0), 0);
        Due.worker(yard, 0, 3, 0);
        Due.is("5th turn(0)", yard.turn(0), 1);
        Due.is("worker(0, 7)", yard.worker(0, 7), 0);
        Due.is("6th turn(0)", yard.turn(0), 3);
        Due.is("7th turn(0)", yard.turn(0), 4);
        Due.is("8th turn(0)", yard.turn(0), 0);
        Due.is("9th turn(0)", yard.turn(0), 5);
        Due.is("worker(0, 7)", yard.worker(0, 7), 1);
        Due.is("10th turn(0)", yard.turn(0), 2);
        Due.is("worker(0, 7)", yard.worker(0, 7), 0);

        // the fifth turn interrupts what was in a row from the slot
        yard = chain();
        yard.turn(0);
        yard.turn(0);
        yard.spawn(3);
        Due.is("3rd turn(0)", yard.turn(0), 0);
        Due.is("4th turn(0)", yard.turn(0), 1);
        yard.spawn(0);
        Due.is("worker(0, 7)", yard.worker(0, 7), 1);
        Due.is("5th turn(0)", yard.turn(0), 3);
        Due.is("worker(0, 7)", yard.worker(0, 7), 0);
        Due.is("6th turn(0)", yard.turn(0), 2);
        Due.is("worker(0, 7)", yard.worker(0, 7), 1);
    }

    private static void fifthTurnWithoutInjector() {
        PollYard yard = chain();
        Due.program(yard, "THEN SPAWN 0 TURN 1");
        for (int i = 0; i < 3; i++) {
            yard.turn(1);
        }
        yard.spawn(5);
        Due.is("4th turn(1)", yard.turn(1), 0);
        Due.worker(yard, 1, 1, 0);
        Due.is("5th turn(1)", yard.turn(1), 1);
        Due.is("worker(1, 7)", yard.worker(1, 7), 1);
        Due.is("worker(1, 1)", yard.worker(1, 1), 5);
    }

    private static void ringBeforeInjector() {
        PollYard yard = new PollYard();
        Due.program(yard, "TURN 2");
        yard.spawn(0);
        yard.spawn(0);
        Due.is("turn(0)", yard.turn(0), 0);
        Due.is("turn(0)", yard.turn(0), 0);
        Due.is("turn(0)", yard.turn(0), 0);
        Due.is("turn(0)", yard.turn(0), 1);
    }

    private static void injectorBeforeStealing() {
        PollYard yard = withSpawned(0, 3);
        yard.spawn(0);
        Due.is("turn(1)", yard.turn(1), 4);
        Due.is("count(6)", yard.count(6), 0);
        Due.is("turn(1)", yard.turn(1), 1);
        Due.is("count(6)", yard.count(6), 1);
    }

    private static void stealsHalf() {
        PollYard yard = withSpawned(2, 5);
        Due.worker(yard, 2, 5, 1, 2, 3, 4);
        Due.is("turn(0)", yard.turn(0), 1);
        Due.worker(yard, 0, -1, 2);
        Due.worker(yard, 2, 5, 3, 4);
        Due.task(yard, 2, QUEUED, 0, 0, 0, 4, 5);
        Due.is("count(6)", yard.count(6), 1);

        yard = withSpawned(2, 4);
        Due.is("turn(1)", yard.turn(1), 1);
        Due.worker(yard, 1, -1, 2);
        Due.worker(yard, 2, 4, 3);
        Due.is("turn(1)", yard.turn(1), 2);
        Due.is("count(6)", yard.count(6), 1);
        Due.is("turn(1)", yard.turn(1), 3);
        Due.worker(yard, 1, -1);
        Due.worker(yard, 2, 4);
        Due.is("count(6)", yard.count(6), 2);

        yard = withSpawned(1, 3);
        Due.is("turn(0)", yard.turn(0), 1);
        Due.worker(yard, 0, -1);
        Due.worker(yard, 1, 3, 2);
    }

    private static void stealsFromTheNextFirst() {
        for (int w = 0; w < 3; w++) {
            PollYard yard = new PollYard();
            Due.program(yard, "TURN 3");
            yard.spawn(0);
            yard.spawn(0);
            Due.is("turn", yard.turn((w + 2) % 3), 0);
            Due.is("turn", yard.turn((w + 1) % 3), 1);
            Due.is("turn(" + w + ")", yard.turn(w), 1);
            Due.worker(yard, (w + 1) % 3, -1);
            Due.worker(yard, (w + 2) % 3, -1, 0);
            Due.worker(yard, w, -1, 1);
        }
    }

    private static void slotIsNotStolen() {
        PollYard yard = withSpawned(0, 1);
        Due.worker(yard, 0, 1);
        Due.is("turn(1)", yard.turn(1), -2);
        Due.is("turn(2)", yard.turn(2), -2);
        Due.is("count(6)", yard.count(6), 0);
        Due.is("turn(0)", yard.turn(0), 1);
    }

    private static void displacedGoesToRing() {
        PollYard yard = withSpawned(1, 5);
        Due.worker(yard, 1, 5, 1, 2, 3, 4);
        Due.injector(yard);
    }

    private static void displacedFromFullRing() {
        PollYard yard = withSpawned(1, 6);
        Due.worker(yard, 1, 6, 3, 4);
        Due.injector(yard, 1, 2, 5);
        Due.task(yard, 5, QUEUED, 0, 0, 0, 4, 1);
        Due.task(yard, 3, QUEUED, 0, 0, 0, 4, 6);
    }

    private static void notedGoesToRing() {
        PollYard yard = new PollYard();
        Due.program(yard, "GIVE 1");
        // noted before the others are made, and behind them all the same
        Due.spawn(yard, "BOTH TURN 1 THEN SPAWN 0 SPAWN 0");
        Due.is("turn(0)", yard.turn(0), 0);
        Due.worker(yard, 0, 2, 1, 0);
    }

    private static void notedWithFullRing() {
        PollYard yard = new PollYard();
        Due.program(yard, "GIVE 1");
        Due.spawn(yard, "THEN SPAWN 0 THEN SPAWN 0 THEN SPAWN 0 THEN SPAWN 0 THEN SPAWN 0 TURN 1");
        yard.spawn(0);
        Due.is("turn(0)", yard.turn(0), 0);
        Due.worker(yard, 0, 6, 4, 5);
        Due.injector(yard, 1, 2, 3, 0);
    }

    private static void wokenGoesToSlot() {
        PollYard yard = new PollYard();
        Due.program(yard, "WAIT 0");
        Due.program(yard, "THEN WAKE 0 THEN WAKE 0 TURN 1");
        yard.spawn(0);
        yard.spawn(0);
        yard.spawn(1);
        Due.is("run(2)", yard.run(2), 2);
        Due.is("turn(1)", yard.turn(1), 2);
        Due.worker(yard, 1, 1, 0, 2);
        Due.injector(yard);
    }

    private static void outsideGoesToInjector() {
        PollYard yard = new PollYard();
        Due.spawn(yard, "WAIT 0");
        Due.spawn(yard, "TAKE 2");
        Due.spawn(yard, "SLEEP 1");
        Due.spawn(yard, "REAP GIVE 4");
        Due.spawn(yard, "SLEEP 9");
        Due.is("run(5)", yard.run(5), 5);
        yard.abort(4);
        yard.tick(1);
        yard.put(0, 1);
        yard.wake(0);
        yard.spawn(4);
        Due.injector(yard, 3, 2, 1, 0, 5);
    }

    private static void runGoesRound() {
        PollYard yard = new PollYard();
        Due.program(yard, "GIVE 1");
        Due.is("run(1)", yard.run(1), 0);
        due(yard, 1, 0, 0);
        Due.is("turn(0)", yard.turn(0), -2);
        Due.is("run(1)", yard.run(1), 0);
        due(yard, 2, 1, 0);
        Due.is("turn(1)", yard.turn(1), -2);
        Due.is("run(0)", yard.run(0), PollYard.REFUSED);
        Due.is("run(2)", yard.run(2), 0);
        due(yard, 3, 2, 1);
        Due.is("run(30)", yard.run(30), 0);
        due(yard, 13, 12, 11);
        yard.spawn(0);
        yard.spawn(0);
        Due.is("run(1)", yard.run(1), 1);
        due(yard, 13, 13, 11);
        Due.is("run(4)", yard.run(4), 1);
        due(yard, 14, 14, 13);
        Due.task(yard, 1, DONE, 1);
    }

    private static void due(PollYard yard, int... counts) {
        for (int w = 0; w < 3; w++) {
            Due.is("worker(" + w + ", 1)", yard.worker(w, 1), counts[w]);
        }
    }
}
