/** Promises 1 to 4: a new object, token, define, clear. */
public final class DraftTest {
    private static final int ANY_LEAST = Integer.MIN_VALUE, ANY_MOST = Integer.MAX_VALUE;

    public static void main(String[] args) {
        newObject();
        rangesOfA();
        fullDraft();
        oneFuture();
        sixPrograms();
        cleared();
        definedDraftIsEmpty();
        Due.end();
    }

    private static void newObject() {
        PollYard yard = new PollYard();
        for (int what = 0; what <= 7; what++) {
            Due.is("count(" + what + ")", yard.count(what), 0);
        }
        for (int w = 0; w < 3; w++) {
            Due.worker(yard, w, -1);
            Due.is("worker(" + w + ", 1)", yard.worker(w, 1), 0);
            Due.is("worker(" + w + ", 7)", yard.worker(w, 7), 0);
        }
        for (int g = 0; g < 2; g++) {
            Due.is("permits", yard.gate(g, 0), 1);
            for (int what = 1; what <= 4; what++) {
                Due.is("gate(" + g + ", " + what + ")", yard.gate(g, what), 0);
            }
        }
        Due.injector(yard);
        Due.task(yard, 0, -1, -1, -1, -1, -1, -1);
        Due.is("spawn(0)", yard.spawn(0), PollYard.REFUSED);
        Due.is("clear()", yard.clear(), 0);
        Due.is("define()", yard.define(), PollYard.REFUSED);
    }

    private static void rangesOfA() {
        range(0, ANY_LEAST, ANY_MOST);
        range(1, 0, 3);
        range(2, 1, 40);
        range(3, 0, 5);
        range(4, 0, 5);
        range(5, 0, 1);
        range(6, 0, 1);
        range(7, 0, 5);
        range(8, ANY_LEAST, ANY_MOST);
        range(9, 1, 97);
        range(10, ANY_LEAST, ANY_MOST);
        range(11, ANY_LEAST, ANY_MOST);
        range(12, ANY_LEAST, ANY_MOST);
        range(13, 1, 40);
        range(14, ANY_LEAST, ANY_MOST);
        range(15, ANY_LEAST, ANY_MOST);
        PollYard yard = new PollYard();
        for (int op : new int[] {-1, 16, ANY_LEAST, ANY_MOST}) {
            Due.is("token(" + op + ", 1)", yard.token(op, 1), PollYard.REFUSED);
        }
        Due.is("count(7)", yard.count(7), 0);
    }

    private static void range(int op, int least, int most) {
        PollYard yard = new PollYard();
        String call = "token(" + op + ", ..)";
        Due.is(call + " least", yard.token(op, least), 1);
        Due.is(call + " most", yard.token(op, most), 2);
        if (least != ANY_LEAST) {
            Due.is(call + " too low", yard.token(op, least - 1), PollYard.REFUSED);
            Due.is(call + " lowest", yard.token(op, ANY_LEAST), PollYard.REFUSED);
            Due.is(call + " too high", yard.token(op, most + 1), PollYard.REFUSED);
            Due.is(call + " highest", yard.token(op, ANY_MOST), PollYard.REFUSED);
        }
        Due.is(call + " then count(7)", yard.count(7), 2);
    }

    private static void fullDraft() {
        PollYard yard = new PollYard();
        for (int i = 1; i <= 12; i++) {
            Due.is("token(14, 1)", yard.token(14, 1), i);
        }
        Due.is("13th token", yard.token(0, 1), PollYard.FULL);
        Due.is("13th token, no op", yard.token(16, 1), PollYard.REFUSED);
        Due.is("13th token, no a", yard.token(1, 4), PollYard.REFUSED);
        Due.is("count(7)", yard.count(7), 12);
        Due.is("define()", yard.define(), PollYard.REFUSED);
        Due.is("clear()", yard.clear(), 12);
        Due.tokens(yard, "ADD 1 ADD 1 ADD 1 ADD 1 ADD 1 ADD 1 ADD 1 ADD 1 ADD 1 ADD 1 ADD 1 GIVE 1");
        Due.is("define()", yard.define(), 0);
        yard.spawn(0);
        yard.turn(0);
        Due.task(yard, 0, PollYard.DONE, 12);
    }

    private static void oneFuture() {
        futures("GIVE 1", true);
        futures("GIVE 1 GIVE 1", false);
        futures("THEN GIVE 1", false);
        futures("THEN GIVE 1 GIVE 2", true);
        futures("THEN GIVE 1 GIVE 2 GIVE 3", false);
        futures("BOTH THEN GIVE 1 GIVE 2", false);
        futures("BOTH THEN GIVE 1 GIVE 2 FIRST GIVE 3 GIVE 4", true);
        for (String one : new String[] {"REAP", "WITHIN 1", "ADD 1", "CATCH"}) {
            futures(one, false);
            futures(one + " GIVE 1", true);
            futures(one + " GIVE 1 GIVE 1", false);
        }
        for (String leaf : new String[] {"TURN 1", "SLEEP 1", "TAKE 1", "PUT 1", "WAIT 1", "WAKE 1", "SPAWN 1",
            "FAIL 1"}) {
            futures(leaf, true);
            futures(leaf + " GIVE 1", false);
        }
    }

    private static void futures(String words, boolean isOne) {
        PollYard yard = new PollYard();
        Due.tokens(yard, words);
        int tokens = yard.count(7);
        Due.is("define() of " + words, yard.define(), isOne ? 0 : PollYard.REFUSED);
        Due.is("count(7) behind " + words, yard.count(7), isOne ? 0 : tokens);
        Due.is("count(0) behind " + words, yard.count(0), isOne ? 1 : 0);
    }

    private static void sixPrograms() {
        PollYard yard = new PollYard();
        for (int p = 0; p < 6; p++) {
            Due.is("define()", Due.program(yard, "GIVE " + (10 + p)), p);
        }
        Due.is("define() of nothing", yard.define(), PollYard.REFUSED);
        Due.is("7th define()", Due.program(yard, "GIVE 7"), PollYard.FULL);
        Due.is("count(7)", yard.count(7), 1);
        Due.is("count(0)", yard.count(0), 6);
        for (int p = 0; p < 6; p++) {
            yard.spawn(p);
            yard.turn(0);
            Due.task(yard, p, PollYard.DONE, 10 + p, 1, p);
        }
    }

    private static void cleared() {
        PollYard yard = new PollYard();
        Due.tokens(yard, "THEN GIVE 1");
        Due.is("clear()", yard.clear(), 2);
        Due.is("clear()", yard.clear(), 0);
        Due.is("count(7)", yard.count(7), 0);
        Due.is("define()", yard.define(), PollYard.REFUSED);
        Due.is("token(0, 5)", yard.token(0, 5), 1);
        Due.is("define()", yard.define(), 0);
    }

    private static void definedDraftIsEmpty() {
        PollYard yard = new PollYard();
        Due.program(yard, "ADD 1 GIVE 5");
        Due.is("count(7)", yard.count(7), 0);
        Due.tokens(yard, "GIVE 8 GIVE 9");
        yard.spawn(0);
        yard.turn(0);
        Due.task(yard, 0, PollYard.DONE, 6);
    }
}
