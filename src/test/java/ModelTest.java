import java.util.Random;

/** All promises: random runs of at most 512 calls, each answered by the class and by the model of the document. */
public final class ModelTest {
    private static final int RUNS = 6000, CALLS = 512, CALLS_THAT_TELL_ALL = 140;
    private static final int[] LEAVES = {0, 1, 1, 2, 2, 3, 3, 3, 3, 4, 4, 5, 5, 5, 6, 6, 7, 7, 7, 9};
    private static final int[] WHOLES = {8, 8, 8, 10, 10, 10, 11, 11, 11, 12, 12, 12, 13, 13, 14, 15, 15};
    private static final int[] TWO_PARTS = {10, 11, 12};
    private static final int[] HIGHEST = {9, 3, 7, 5, 5, 1, 1, 5, 0, 97, 0, 0, 0, 7, 9, 0};

    private final Random random;
    private final int run;
    private final PollYard yard = new PollYard();
    private final Model model = new Model();
    private int calls = 0;

    private ModelTest(int run) {
        this.run = run;
        this.random = new Random(run * 7919L + 11);
    }

    public static void main(String[] args) {
        for (int run = 0; run < RUNS; run++) {
            new ModelTest(run).goOn();
        }
        Due.end();
    }

    private void goOn() {
        for (int p = 0; p < 3; p++) {
            defineOne();
        }
        while (calls < CALLS - CALLS_THAT_TELL_ALL - 30) {
            change();
            for (int i = 0; i < 2; i++) {
                lookSomewhere();
            }
        }
        lookEverywhere();
    }

    private void due(String call, int got, int want) {
        calls++;
        Due.is("run " + run + ", call " + calls + ": " + call, got, want);
    }

    private void token(int op, int a) {
        due("token(" + op + ", " + a + ")", yard.token(op, a), model.token(op, a));
    }

    private void define() {
        due("define()", yard.define(), model.define());
    }

    private void defineOne() {
        appendFuture(1 + random.nextInt(12));
        define();
    }

    private void appendFuture(int tokens) {
        if (tokens == 1) {
            appendToken(LEAVES[random.nextInt(LEAVES.length)]);
            return;
        }
        int op = WHOLES[random.nextInt(WHOLES.length)];
        boolean pair = op == TWO_PARTS[0] || op == TWO_PARTS[1] || op == TWO_PARTS[2];
        if (pair && tokens == 2) {
            op = 8;
            pair = false;
        }
        appendToken(op);
        int first = pair ? 1 + random.nextInt(tokens - 2) : tokens - 1;
        appendFuture(first);
        if (pair) {
            appendFuture(tokens - 1 - first);
        }
    }

    private void appendToken(int op) {
        int least = op == 2 || op == 9 || op == 13 ? 1 : 0;
        token(op, least + random.nextInt(HIGHEST[op] - least + 1));
    }

    private void change() {
        int wish = random.nextInt(100);
        if (wish < 4) {
            defineOne();
        } else if (wish < 7) {
            token(random.nextInt(18) - 1, anyNumber(42));
        } else if (wish < 9) {
            due("clear()", yard.clear(), model.clear());
        } else if (wish < 11) {
            define();
        } else if (wish < 25) {
            int p = random.nextInt(12) == 0 ? anyNumber(6) : random.nextInt(4);
            due("spawn(" + p + ")", yard.spawn(p), model.spawn(p));
        } else if (wish < 50) {
            int w = random.nextInt(40) == 0 ? anyNumber(3) : random.nextInt(3);
            due("turn(" + w + ")", yard.turn(w), model.turn(w));
        } else if (wish < 65) {
            int n = random.nextInt(40) == 0 ? anyNumber(32) : 1 + random.nextInt(4);
            due("run(" + n + ")", yard.run(n), model.run(n));
        } else if (wish < 80) {
            int n = random.nextInt(40) == 0 ? anyNumber(21) : 1 + random.nextInt(3);
            due("tick(" + n + ")", yard.tick(n), model.tick(n));
        } else if (wish < 84) {
            int t = anyNumber(12);
            due("abort(" + t + ")", yard.abort(t) ? 1 : 0, model.abort(t) ? 1 : 0);
        } else if (wish < 92) {
            int g = anyNumber(2);
            int k = random.nextInt(20) == 0 ? anyNumber(10) : 1 + random.nextInt(2);
            due("put(" + g + ", " + k + ")", yard.put(g, k), model.put(g, k));
        } else {
            int g = anyNumber(2);
            due("wake(" + g + ")", yard.wake(g), model.wake(g));
        }
    }

    /** Mostly one from 0 to below the bound, at times one outside. */
    private int anyNumber(int bound) {
        switch (random.nextInt(30)) {
            case 0: return -1;
            case 1: return bound;
            case 2: return random.nextInt();
            default: return random.nextInt(bound);
        }
    }

    private void lookSomewhere() {
        int at = anyNumber(random.nextInt(3) + 1);
        switch (random.nextInt(5)) {
            case 0: lookAtTask(anyNumber(12), anyNumber(6)); break;
            case 1: lookAtWorker(anyNumber(3), anyNumber(8)); break;
            case 2: due("injected(" + at + ")", yard.injected(at), model.injected(at)); break;
            case 3: lookAtGate(anyNumber(2), anyNumber(5)); break;
            default: lookAtCount(anyNumber(8)); break;
        }
    }

    private void lookEverywhere() {
        for (int t = 0; t < 12; t++) {
            for (int what = 0; what < 6; what++) {
                lookAtTask(t, what);
            }
        }
        for (int w = 0; w < 3; w++) {
            for (int what = 0; what < 8; what++) {
                lookAtWorker(w, what);
            }
        }
        for (int k = 0; k < 12; k++) {
            due("injected(" + k + ")", yard.injected(k), model.injected(k));
        }
        for (int what = 0; what < 5; what++) {
            lookAtGate(0, what);
            lookAtGate(1, what);
        }
        for (int what = 0; what < 8; what++) {
            lookAtCount(what);
        }
    }

    private void lookAtTask(int t, int what) {
        due("task(" + t + ", " + what + ")", yard.task(t, what), model.task(t, what));
    }

    private void lookAtWorker(int w, int what) {
        due("worker(" + w + ", " + what + ")", yard.worker(w, what), model.worker(w, what));
    }

    private void lookAtGate(int g, int what) {
        due("gate(" + g + ", " + what + ")", yard.gate(g, what), model.gate(g, what));
    }

    private void lookAtCount(int what) {
        due("count(" + what + ")", yard.count(what), model.count(what));
    }
}
