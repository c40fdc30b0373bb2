/** Promises 10, 11 and 15: put, wake, gate. */
public final class GateTest {
    private static final int IDLE = PollYard.IDLE, QUEUED = PollYard.QUEUED, DONE = PollYard.DONE;

    public static void main(String[] args) {
        wrongInputs();
        puts();
        permitsInOrder();
        oneForMany();
        laterOnesWaitBehind();
        putInATurn();
        whatATakeTakes();
        notices();
        noticeInATurn();
        droppedLeavesTheMiddle();
        Due.end();
    }

    private static void wrongInputs() {
        PollYard yard = new PollYard();
        for (int wrong : new int[] {-1, 2, Integer.MIN_VALUE, Integer.MAX_VALUE}) {
            Due.is("put(" + wrong + ", 1)", yard.put(wrong, 1), PollYard.REFUSED);
            Due.is("wake(" + wrong + ")", yard.wake(wrong), PollYard.REFUSED);
            Due.is("gate(" + wrong + ", 0)", yard.gate(wrong, 0), PollYard.REFUSED);
        }
        for (int wrong : new int[] {0, -1, 10, Integer.MIN_VALUE, Integer.MAX_VALUE}) {
            Due.is("put(0, " + wrong + ")", yard.put(0, wrong), PollYard.REFUSED);
        }
        for (int wrong : new int[] {-1, 5, Integer.MIN_VALUE, Integer.MAX_VALUE}) {
            Due.is("gate(0, " + wrong + ")", yard.gate(0, wrong), PollYard.REFUSED);
        }
        Due.gate(yard, 0, 1, 0, 0, 0, 0);
        Due.gate(yard, 1, 1, 0, 0, 0, 0);
    }

    private static void puts() {
        PollYard yard = new PollYard();
        Due.is("put(0, 9)", yard.put(0, 9), 10);
        Due.is("put(0, 1)", yard.put(0, 1), 11);
        Due.is("put(1, 4)", yard.put(1, 4), 5);
        Due.gate(yard, 0, 11, 0, 0, 0, 0);
        Due.gate(yard, 1, 5, 0, 0, 0, 0);
    }

    private static void permitsInOrder() {
        PollYard yard = new PollYard();
        Due.program(yard, "TAKE 4");
        Due.program(yard, "TAKE 2");
        yard.spawn(0);
        yard.spawn(1);
        Due.is("run(2)", yard.run(2), 2);
        Due.gate(yard, 0, 0, 2, 1);
        Due.is("put(0, 1)", yard.put(0, 1), 0);
        Due.gate(yard, 0, 0, 2, 2);
        Due.injector(yard);
        Due.is("put(0, 2)", yard.put(0, 2), 0);
        Due.gate(yard, 0, 0, 1, 1);
        Due.injector(yard, 0);
        Due.is("put(0, 5)", yard.put(0, 5), 4);
        Due.gate(yard, 0, 4, 0, 0);
        Due.injector(yard, 0, 1);
        Due.is("run(2)", yard.run(2), 2);
        Due.task(yard, 0, DONE, 3, 2, 0, 3);
        Due.task(yard, 1, DONE, 2, 2, 1, 3);
        Due.gate(yard, 0, 4, 0, 0);
    }

    private static void oneForMany() {
        PollYard yard = new PollYard();
        Due.program(yard, "TAKE 1");
        for (int t = 0; t < 5; t++) {
            yard.spawn(0);
        }
        Due.is("run(5)", yard.run(5), 5);
        Due.gate(yard, 1, 0, 4, 0);
        Due.is("put(1, 3)", yard.put(1, 3), 0);
        Due.gate(yard, 1, 0, 1, 0);
        Due.injector(yard, 1, 2, 3);
        Due.is("put(1, 1)", yard.put(1, 1), 0);
        Due.gate(yard, 1, 0, 0, 0);
        Due.injector(yard, 1, 2, 3, 4);
    }

    /** One that wants little does not pass one that wants much. */
    private static void laterOnesWaitBehind() {
        PollYard yard = new PollYard();
        Due.spawn(yard, "TAKE 4");
        Due.spawn(yard, "TAKE 0");
        Due.is("run(1)", yard.run(1), 1);
        Due.is("put(0, 1)", yard.put(0, 1), 0);
        Due.is("run(1)", yard.run(1), 1);
        Due.task(yard, 1, IDLE, 0, 1);
        Due.gate(yard, 0, 0, 2, 2);
        Due.is("put(0, 1)", yard.put(0, 1), 0);
        Due.injector(yard, 0);
        Due.gate(yard, 0, 0, 1, 0);
        Due.is("put(0, 1)", yard.put(0, 1), 0);
        Due.injector(yard, 0, 1);
    }

    private static void putInATurn() {
        for (int a = 0; a <= 5; a++) {
            PollYard yard = new PollYard();
            Due.spawn(yard, "PUT " + a);
            yard.turn(0);
            Due.is("gate with PUT " + a, yard.gate(a % 2, 0), 2 + a / 2);
            Due.is("the other with PUT " + a, yard.gate(1 - a % 2, 0), 1);
        }
        PollYard yard = new PollYard();
        Due.spawn(yard, "TAKE 2");
        Due.spawn(yard, "TAKE 0");
        Due.spawn(yard, "PUT 4");
        Due.is("run(2)", yard.run(2), 2);
        Due.is("turn(2)", yard.turn(2), 2);
        Due.worker(yard, 2, 1, 0);
        Due.gate(yard, 0, 1, 0, 0);

        // a task that adds what it waits for itself is noted
        yard = new PollYard();
        Due.spawn(yard, "BOTH TAKE 2 PUT 0");
        Due.is("turn(0)", yard.turn(0), 0);
        Due.task(yard, 0, QUEUED, 0, 1, 0, 4, 5);
        Due.is("turn(0)", yard.turn(0), 0);
        Due.task(yard, 0, DONE, 2, 2, 0, 3, 0);
    }

    private static void whatATakeTakes() {
        for (int a = 0; a <= 5; a++) {
            PollYard yard = new PollYard();
            yard.put(0, 4);
            yard.put(1, 4);
            Due.spawn(yard, "TAKE " + a);
            yard.turn(0);
            Due.task(yard, 0, DONE, 1 + a / 2, 1, 0, 3);
            Due.is("gate with TAKE " + a, yard.gate(a % 2, 0), 4 - a / 2);
            Due.is("the other with TAKE " + a, yard.gate(1 - a % 2, 0), 5);
        }
        PollYard yard = new PollYard();
        yard.put(0, 1);
        Due.spawn(yard, "TAKE 4");
        yard.turn(0);
        Due.task(yard, 0, IDLE, 0, 1, 0, 4);
        Due.gate(yard, 0, 0, 1, 2);
    }

    private static void notices() {
        PollYard yard = new PollYard();
        Due.program(yard, "WAIT 0");
        Due.program(yard, "WAIT 1");
        Due.is("wake(1)", yard.wake(1), 0);
        Due.is("wake(1)", yard.wake(1), 0);
        Due.gate(yard, 0, 1, 0, 0, 0, 0);
        Due.gate(yard, 1, 1, 0, 0, 1, 0);
        yard.spawn(1);
        yard.spawn(1);
        yard.spawn(0);
        yard.spawn(1);
        Due.is("run(4)", yard.run(4), 4);
        // however often it was given, it was kept once
        Due.task(yard, 0, DONE, 1, 1, 1, 3);
        Due.task(yard, 1, IDLE, 0, 1, 1, 4);
        Due.gate(yard, 0, 1, 0, 0, 0, 1);
        Due.gate(yard, 1, 1, 0, 0, 0, 2);
        Due.is("wake(1)", yard.wake(1), 1);
        Due.injector(yard, 1);
        Due.gate(yard, 1, 1, 0, 0, 0, 1);
        Due.is("wake(1)", yard.wake(1), 1);
        Due.injector(yard, 1, 3);
        Due.is("wake(1)", yard.wake(1), 0);
        Due.gate(yard, 1, 1, 0, 0, 1, 0);
        Due.is("run(2)", yard.run(2), 2);
        Due.task(yard, 1, DONE, 1, 2, 1, 3);
        Due.task(yard, 3, DONE, 1, 2, 1, 3);
        Due.gate(yard, 1, 1, 0, 0, 1, 0);
    }

    private static void noticeInATurn() {
        PollYard yard = new PollYard();
        Due.spawn(yard, "WAIT 1");
        Due.spawn(yard, "THEN WAKE 1 WAKE 0");
        Due.is("run(1)", yard.run(1), 1);
        Due.is("turn(2)", yard.turn(2), 1);
        Due.worker(yard, 2, 0);
        Due.gate(yard, 0, 1, 0, 0, 1, 0);
        Due.gate(yard, 1, 1, 0, 0, 0, 0);

        // a task that wakes itself is noted
        yard = new PollYard();
        Due.spawn(yard, "BOTH WAIT 0 WAKE 0");
        Due.is("turn(1)", yard.turn(1), 0);
        Due.task(yard, 0, QUEUED, 0, 1, 0, 4, 6);
        Due.is("turn(1)", yard.turn(1), 0);
        Due.task(yard, 0, DONE, 1, 2, 0, 3, 0);
    }

    private static void droppedLeavesTheMiddle() {
        PollYard yard = new PollYard();
        Due.program(yard, "TAKE 2");
        Due.program(yard, "BOTH WAIT 0 TAKE 0");
        yard.spawn(0);
        yard.spawn(1);
        yard.spawn(0);
        yard.spawn(1);
        Due.is("run(4)", yard.run(4), 4);
        Due.gate(yard, 0, 0, 4, 1, 0, 2);
        Due.is("abort(1)", yard.abort(1), true);
        Due.gate(yard, 0, 0, 3, 1, 0, 1);
        Due.is("put(0, 4)", yard.put(0, 4), 0);
        Due.injector(yard, 0, 2, 3);
        Due.is("wake(0)", yard.wake(0), 1);
        Due.is("run(3)", yard.run(3), 3);
        Due.task(yard, 3, DONE, 2, 2, 1, 2);
    }
}
