/** Promises 1 to 4: a test for each sentence that names an edge; the sentence stands above its test. */
public final class EdgesOfDraftTest {
    private static final int LOW = Integer.MIN_VALUE, HIGH = Integer.MAX_VALUE;
    private static final int REFUSED = PollYard.REFUSED, FULL = PollYard.FULL, DONE = PollYard.DONE;
    private static final int[] FAR = {LOW, LOW + 1, -100, -16, -2, -1, 16, 17, 100, HIGH - 1, HIGH};

    public static void main(String[] args) {
        nothingAtFirst();
        objectsAreApart();
        noSuchOp();
        aNotAsSaid();
        anyA();
        aNotLookedAt();
        thirteenthToken();
        refusedBeforeFull();
        notOneFuture();
        refusedDraftStays();
        longestAndShortest();
        numberedFromZero();
        seventhProgram();
        refusedBeforeFullProgram();
        clearsWhatItHad();
        clearKeepsPrograms();
        Due.end();
    }

    /** "No PROGRAMS, no TASKS, an empty draft, the CLOCK at 0." */
    private static void nothingAtFirst() {
        PollYard yard = new PollYard();
        Due.counts(yard, 0, 0, 0, 0, 0, 0, 0, 0);
        Due.is("spawn(0)", yard.spawn(0), REFUSED);
        Due.is("abort(0)", yard.abort(0), false);
        Due.is("task(0, 0)", yard.task(0, 0), REFUSED);
        Due.is("injected(0)", yard.injected(0), REFUSED);
        Due.is("clear()", yard.clear(), 0);
        Due.is("define()", yard.define(), REFUSED);
        Due.is("turn(2)", yard.turn(2), -2);
        Due.is("tick(1)", yard.tick(1), 1);
        Due.is("token(0, 0)", yard.token(0, 0), 1);
        Due.is("define()", yard.define(), 0);
        Due.is("spawn(0)", yard.spawn(0), 0);
    }

    /** "A new object": what was done to another one is not seen. */
    private static void objectsAreApart() {
        PollYard busy = new PollYard();
        PollYard early = new PollYard();
        String untouched = Due.sight(new PollYard());
        Due.program(busy, "GIVE 1");
        Due.program(busy, "THEN SPAWN 0 THEN SPAWN 0 THEN SPAWN 0 BOTH TAKE 2 WAIT 1");
        busy.spawn(1);
        busy.run(2);
        busy.tick(9);
        busy.put(1, 3);
        busy.wake(0);
        busy.token(10, 0);
        Due.same("one that was made before", Due.sight(early), untouched);
        Due.same("one that was made behind", Due.sight(new PollYard()), untouched);
    }

    /** "REFUSED if op is not 0..15" */
    private static void noSuchOp() {
        PollYard yard = new PollYard();
        for (int op : FAR) {
            for (int a : new int[] {-1, 0, 1}) {
                Due.is("token(" + op + ", " + a + ")", yard.token(op, a), REFUSED);
            }
        }
        Due.is("token(0, 1)", yard.token(0, 1), 1);
        yard.clear();
        for (int op = 0; op <= 15; op++) {
            Due.is("token(" + op + ", 1)", yard.token(op, 1), 1);
            yard.clear();
        }
    }

    /** "or a not as said": 1: 0..3; 2 and 13: 1..40; 3, 4 and 7: 0..5; 5 and 6: 0..1; 9: 1..97 */
    private static void aNotAsSaid() {
        allOfA(1, 0, 3);
        allOfA(2, 1, 40);
        allOfA(3, 0, 5);
        allOfA(4, 0, 5);
        allOfA(5, 0, 1);
        allOfA(6, 0, 1);
        allOfA(7, 0, 5);
        allOfA(9, 1, 97);
        allOfA(13, 1, 40);
    }

    private static void allOfA(int op, int least, int most) {
        PollYard yard = new PollYard();
        for (int a = -3; a <= 101; a++) {
            String call = "token(" + op + ", " + a + ")";
            boolean taken = least <= a && a <= most;
            Due.is(call, yard.token(op, a), taken ? 1 : REFUSED);
            Due.is("clear() behind " + call, yard.clear(), taken ? 1 : 0);
        }
        // 256 and 65536 above a good one: what a narrower number would take for that
        for (int a : new int[] {LOW, LOW + least, HIGH, least + 256, least + 65536, least - 256, least - 65536}) {
            Due.is("token(" + op + ", " + a + ")", yard.token(op, a), REFUSED);
        }
        Due.is("count(7)", yard.count(7), 0);
    }

    /** "(0 and 14: any" */
    private static void anyA() {
        for (int a : new int[] {LOW, LOW + 1, -98, -1, 0, 1, 41, 98, 65536, HIGH - 1, HIGH}) {
            Due.ends("GIVE " + a, DONE, a);
            Due.ends("ADD " + a + " GIVE 0", DONE, a);
        }
    }

    /** "8, 10, 11, 12, 15: not looked at)" */
    private static void aNotLookedAt() {
        for (int a : new int[] {LOW, -1, 0, 1, 6, 41, 98, HIGH}) {
            endsWith(8, a, "GIVE 0", PollYard.FAILED, 98);
            endsWith(10, a, "GIVE 3 GIVE 4", DONE, 4);
            endsWith(11, a, "GIVE 3 GIVE 4", DONE, 7);
            endsWith(12, a, "GIVE 3 GIVE 4", DONE, 3);
            endsWith(15, a, "FAIL 5", DONE, -5);
        }
    }

    private static void endsWith(int op, int a, String parts, int standing, int outcome) {
        PollYard yard = new PollYard();
        Due.is("token(" + op + ", " + a + ")", yard.token(op, a), 1);
        Due.spawn(yard, parts);
        yard.turn(0);
        Due.task(yard, 0, standing, outcome);
    }

    /** "FULL if it has 12." */
    private static void thirteenthToken() {
        PollYard yard = new PollYard();
        for (int i = 1; i <= 11; i++) {
            Due.is("token(15, 0)", yard.token(15, 0), i);
        }
        Due.is("the 12th", yard.token(0, 77), 12);
        for (int op = 0; op <= 15; op++) {
            Due.is("the 13th, token(" + op + ", 1)", yard.token(op, 1), FULL);
        }
        Due.is("count(7)", yard.count(7), 12);
        Due.is("define()", yard.define(), 0);
        Due.is("token(0, 1)", yard.token(0, 1), 1);
        yard.spawn(0);
        yard.turn(0);
        Due.task(yard, 0, DONE, 77);
    }

    /** "REFUSED if op is not 0..15, or a not as said .. ; FULL if it has 12." */
    private static void refusedBeforeFull() {
        PollYard yard = new PollYard();
        for (int i = 1; i <= 12; i++) {
            yard.token(0, i);
        }
        for (int op : FAR) {
            Due.is("token(" + op + ", 1)", yard.token(op, 1), REFUSED);
        }
        int[][] wrong = {{1, 4}, {2, 0}, {2, 41}, {3, 6}, {4, -1}, {5, 2}, {6, -1}, {7, 6}, {9, 0}, {9, 98}, {13, 0}};
        for (int[] row : wrong) {
            Due.is("token(" + row[0] + ", " + row[1] + ")", yard.token(row[0], row[1]), REFUSED);
        }
        Due.is("count(7)", yard.count(7), 12);
    }

    /** "REFUSED if it is not one FUTURE" */
    private static void notOneFuture() {
        notOne();
        notOne(10);
        notOne(10, 0);
        notOne(0, 0);
        notOne(0, 10);
        notOne(0, 10, 0, 0);
        // behind a whole future others come, and nothing is missing at the end
        notOne(0, 8);
        notOne(0, 13);
        notOne(0, 14);
        notOne(0, 15);
        notOne(0, 10, 0);
        notOne(0, 11, 0);
        notOne(0, 12, 0);
        notOne(10, 0, 0, 14);
        notOne(14, 0, 11, 0);
        notOne(10, 0, 0, 0);
        notOne(14, 0, 0);
        notOne(8, 13, 15);
        notOne(11, 12, 0, 0);
        notOne(11, 0, 12, 0);
        notOne(10, 10, 10, 0, 0, 0);
        notOne(12, 0, 11, 0, 0, 0);
        notOne(0, 0, 0, 0, 0, 0, 0, 0, 0, 0, 0, 0);
        notOne(14, 14, 14, 14, 14, 14, 14, 14, 14, 14, 14, 14);
        notOne(10, 10, 10, 10, 10, 10, 10, 10, 10, 10, 10, 10);
        notOne(10, 0, 10, 0, 10, 0, 10, 0, 10, 0, 10, 0);
        notOne(10, 10, 10, 10, 10, 10, 0, 0, 0, 0, 0, 0);
        notOne(14, 10, 10, 10, 10, 0, 0, 0, 0, 0, 0, 0);
    }

    private static void notOne(int... ops) {
        PollYard yard = new PollYard();
        for (int op : ops) {
            yard.token(op, 1);
        }
        Due.is("define() of " + ops.length + " tokens", yard.define(), REFUSED);
        Due.counts(yard, 0, 0, 0, 0, 0, 0, 0, ops.length);
        Due.is("spawn(0)", yard.spawn(0), REFUSED);
    }

    /** "REFUSED if it is not one FUTURE": what was refused is still the draft. */
    private static void refusedDraftStays() {
        PollYard yard = new PollYard();
        Due.tokens(yard, "BOTH ADD 40 GIVE 2");
        Due.is("define()", yard.define(), REFUSED);
        Due.is("define()", yard.define(), REFUSED);
        Due.is("token(0, 100)", yard.token(0, 100), 4);
        Due.is("define()", yard.define(), 0);
        Due.is("define()", yard.define(), REFUSED);
        yard.spawn(0);
        yard.turn(0);
        Due.task(yard, 0, DONE, 142);
    }

    /** "The draft is the next PROGRAM": of one token, and of 12, deep and wide. */
    private static void longestAndShortest() {
        Due.ends("GIVE 5", DONE, 5);
        Due.ends("ADD 1 ADD 1 ADD 1 ADD 1 ADD 1 ADD 1 ADD 1 ADD 1 ADD 1 ADD 1 ADD 1 GIVE 5", DONE, 16);
        Due.ends("ADD 7 BOTH BOTH BOTH BOTH BOTH GIVE 1 GIVE 2 GIVE 4 GIVE 8 GIVE 16 GIVE 32", DONE, 70);
        Due.ends("ADD 7 BOTH GIVE 1 BOTH GIVE 2 BOTH GIVE 4 BOTH GIVE 8 BOTH GIVE 16 GIVE 32", DONE, 70);
        Due.ends("BOTH GIVE 1 BOTH GIVE 2 BOTH GIVE 4 BOTH GIVE 8 BOTH GIVE 16 CATCH FAIL 32", DONE, -1);
    }

    /** "and empty then: its number, from 0 on" */
    private static void numberedFromZero() {
        PollYard yard = new PollYard();
        for (int p = 0; p < 6; p++) {
            Due.is("token(0, ..)", yard.token(0, 50 + p), 1);
            Due.is("define()", yard.define(), p);
            Due.is("count(0)", yard.count(0), p + 1);
            Due.is("count(7)", yard.count(7), 0);
        }
        for (int p = 5; p >= 0; p--) {
            Due.is("spawn(" + p + ")", yard.spawn(p), 5 - p);
        }
        Due.is("run(6)", yard.run(6), 6);
        for (int t = 0; t < 6; t++) {
            Due.task(yard, t, DONE, 55 - t, 1, 5 - t);
        }
    }

    /** "FULL if there are 6." */
    private static void seventhProgram() {
        PollYard yard = new PollYard();
        for (int p = 0; p < 6; p++) {
            Due.program(yard, "GIVE " + p);
        }
        Due.tokens(yard, "ADD 1 GIVE 2");
        Due.is("define()", yard.define(), FULL);
        Due.is("define()", yard.define(), FULL);
        Due.counts(yard, 6, 0, 0, 0, 0, 0, 0, 2);
        Due.is("spawn(6)", yard.spawn(6), REFUSED);
        Due.is("token(0, 1)", yard.token(0, 1), 3);
        Due.is("clear()", yard.clear(), 3);
        Due.is("spawn(5)", yard.spawn(5), 0);
    }

    /** "REFUSED if it is not one FUTURE; FULL if there are 6." */
    private static void refusedBeforeFullProgram() {
        PollYard yard = new PollYard();
        for (int p = 0; p < 6; p++) {
            Due.program(yard, "GIVE " + p);
        }
        Due.is("define() of nothing", yard.define(), REFUSED);
        yard.token(10, 0);
        Due.is("define() of THEN", yard.define(), REFUSED);
        yard.token(0, 0);
        Due.is("define() of THEN GIVE", yard.define(), REFUSED);
        yard.token(0, 0);
        Due.is("define() of THEN GIVE GIVE", yard.define(), FULL);
        yard.token(0, 0);
        Due.is("define() of THEN GIVE GIVE GIVE", yard.define(), REFUSED);
        Due.is("count(7)", yard.count(7), 4);
    }

    /** "The draft is empty: how many tokens it had." */
    private static void clearsWhatItHad() {
        PollYard yard = new PollYard();
        for (int tokens = 0; tokens <= 13; tokens++) {
            for (int i = 0; i < tokens; i++) {
                yard.token(11, 0);
            }
            Due.is("clear()", yard.clear(), Math.min(tokens, 12));
            Due.is("count(7)", yard.count(7), 0);
            Due.is("clear()", yard.clear(), 0);
        }
        // nothing of what was there before is left
        Due.is("token(0, 9)", yard.token(0, 9), 1);
        Due.is("define()", yard.define(), 0);
        Due.is("clear() behind define()", yard.clear(), 0);
    }

    /** "The draft is empty", and nothing else is. */
    private static void clearKeepsPrograms() {
        PollYard yard = new PollYard();
        Due.program(yard, "ADD 4 TURN 1");
        yard.spawn(0);
        yard.turn(0);
        String before = Due.sight(yard);
        Due.is("token(9, 9)", yard.token(9, 9), 1);
        Due.is("clear()", yard.clear(), 1);
        Due.same("a yard whose draft was cleared", Due.sight(yard), before);
        yard.turn(0);
        Due.task(yard, 0, DONE, 4, 2, 0, 4, 0);
    }
}
