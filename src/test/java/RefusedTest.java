import java.util.Random;

/**
 * Twins: two yards take the same random run of calls, and one of them many that it refuses, or that only look, in
 * between. What they tell of themselves at the end, and what the run answered, is the same.
 */
public final class RefusedTest {
    private static final int RUNS = 1500, CALLS = 90, MOST_CALLS = 512;
    private static final int[] WRONG = {Integer.MIN_VALUE, -256, -2, -1, 256, 65536, Integer.MAX_VALUE};

    private final Random random;
    private final String name;
    private final PollYard plain = new PollYard();
    private final PollYard bothered = new PollYard();
    private int calls = 0;

    private RefusedTest(int run) {
        random = new Random(run * 104729L + 5);
        name = "run " + run;
    }

    public static void main(String[] args) {
        for (int run = 0; run < RUNS; run++) {
            new RefusedTest(run).goOn();
        }
        Due.end();
    }

    private void goOn() {
        String[] programs = {"TURN 2", "BOTH TAKE 2 SLEEP 2", "THEN SPAWN 0 THEN SPAWN 1 WITHIN 3 WAIT 0",
            "CATCH REAP SPAWN 2", "FIRST TAKE 5 THEN SLEEP 3 THEN PUT 0 WAKE 1", "BOTH WAIT 1 THEN WAKE 0 FAIL 7"};
        for (String words : programs) {
            Due.program(plain, words);
            Due.program(bothered, words);
            calls += words.split(" ").length + 1;
        }
        for (int i = 0; i < CALLS; i++) {
            int kind = random.nextInt(9);
            int number = random.nextInt(12);
            Due.is(name + ", kind " + kind, change(bothered, kind, number), change(plain, kind, number));
            calls++;
            bother();
        }
        if (calls + Due.SIGHT_CALLS > MOST_CALLS) {
            throw new IllegalStateException("a run too long for one object: " + calls);
        }
        Due.same(name, Due.sight(bothered), Due.sight(plain));
    }

    private static int change(PollYard yard, int kind, int number) {
        switch (kind) {
            case 0: return yard.spawn(number % 6);
            case 1: case 2: return yard.turn(number % 3);
            case 3: case 4: return yard.run(1 + number % 4);
            case 5: return yard.tick(1 + number % 2);
            case 6: return number < 4 ? yard.put(number % 2, 1 + number % 3) : yard.wake(number % 2);
            case 7: return number < 8 ? yard.token(10 + number % 2, 0) : yard.clear();
            default: return yard.abort(number) ? 1 : 0;
        }
    }

    /** Two or three calls that change nothing. */
    private void bother() {
        int times = 2 + random.nextInt(2);
        for (int i = 0; i < times; i++) {
            int wrong = WRONG[random.nextInt(WRONG.length)];
            if (random.nextBoolean()) {
                Due.is(name + ", refused", refused(random.nextInt(12), wrong), PollYard.REFUSED);
            } else {
                look(random.nextInt(5), random.nextInt(9) - 1, random.nextInt(9) - 1);
            }
            calls++;
        }
    }

    private int refused(int kind, int wrong) {
        switch (kind) {
            case 0: return bothered.token(wrong, 1);
            case 1: return bothered.token(1 + random.nextInt(7), wrong);
            case 2: return bothered.token(random.nextBoolean() ? 9 : 13, wrong);
            case 3: return bothered.spawn(wrong);
            case 4: return bothered.turn(wrong);
            case 5: return bothered.run(random.nextBoolean() ? wrong : random.nextBoolean() ? 0 : 31);
            case 6: return bothered.tick(random.nextBoolean() ? wrong : random.nextBoolean() ? 0 : 21);
            case 7: return bothered.abort(wrong) ? 1 : PollYard.REFUSED;
            case 8: return bothered.put(wrong, 1);
            case 9: return bothered.put(1, random.nextBoolean() ? wrong : random.nextBoolean() ? 0 : 10);
            case 10: return bothered.wake(random.nextBoolean() ? wrong : 2);
            // the draft has THEN and BOTH alone, so that it is never a future
            default: return bothered.define();
        }
    }

    private void look(int kind, int at, int what) {
        switch (kind) {
            case 0: bothered.task(at, what); break;
            case 1: bothered.worker(at, what); break;
            case 2: bothered.injected(at); break;
            case 3: bothered.gate(at, what); break;
            default: bothered.count(what); break;
        }
    }
}
