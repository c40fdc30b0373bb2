import java.util.Arrays;
import java.util.List;

/** What the project's tests share: it counts answers that are not the due ones, and writes programs as words. */
final class Due {
    private static final List<String> OPS = Arrays.asList(
            "GIVE", "TURN", "SLEEP", "TAKE", "PUT", "WAIT", "WAKE", "SPAWN",
            "REAP", "FAIL", "THEN", "BOTH", "FIRST", "WITHIN", "ADD", "CATCH");
    private static final List<String> WITHOUT_A = Arrays.asList("REAP", "THEN", "BOTH", "FIRST", "CATCH");

    static final int SIGHT_CALLS = 12 * 6 + 3 * 8 + 12 + 2 * 5 + 8;

    private static int wrong = 0;

    private Due() {
    }

    static void is(String call, long got, long want) {
        if (got != want) {
            wrong++;
            System.out.println(call + " answered " + got + ", due is " + want);
        }
    }

    static void is(String call, boolean got, boolean want) {
        is(call, got ? 1 : 0, want ? 1 : 0);
    }

    /** The answers of task(t, 0) to task(t, 5), as far as they are given. */
    static void task(PollYard yard, int t, int... wants) {
        for (int what = 0; what < wants.length; what++) {
            is("task(" + t + ", " + what + ")", yard.task(t, what), wants[what]);
        }
    }

    /** Slot and ring of a worker. */
    static void worker(PollYard yard, int w, int slot, int... ring) {
        is("worker(" + w + ", 0)", yard.worker(w, 0), slot);
        is("worker(" + w + ", 2)", yard.worker(w, 2), ring.length);
        for (int k = 0; k < 4; k++) {
            is("worker(" + w + ", " + (3 + k) + ")", yard.worker(w, 3 + k), k < ring.length ? ring[k] : -1);
        }
    }

    /** The answers of gate(g, 0) to gate(g, 4), as far as they are given. */
    static void gate(PollYard yard, int g, int... wants) {
        for (int what = 0; what < wants.length; what++) {
            is("gate(" + g + ", " + what + ")", yard.gate(g, what), wants[what]);
        }
    }

    /** The answers of count(0) to count(7), as far as they are given. */
    static void counts(PollYard yard, int... wants) {
        for (int what = 0; what < wants.length; what++) {
            is("count(" + what + ")", yard.count(what), wants[what]);
        }
    }

    static void injector(PollYard yard, int... wants) {
        is("count(5)", yard.count(5), wants.length);
        for (int k = 0; k < wants.length; k++) {
            is("injected(" + k + ")", yard.injected(k), wants[k]);
        }
        is("injected(" + wants.length + ")", yard.injected(wants.length), PollYard.REFUSED);
    }

    /** Defines the program that the words say, as in "THEN TAKE 0 GIVE 3": its number. */
    static int program(PollYard yard, String words) {
        tokens(yard, words);
        return yard.define();
    }

    static void tokens(PollYard yard, String words) {
        String[] row = words.split(" ");
        int i = 0;
        while (i < row.length) {
            int op = OPS.indexOf(row[i]);
            boolean hasA = !WITHOUT_A.contains(row[i]);
            if (yard.token(op, hasA ? Integer.parseInt(row[i + 1]) : 0) < 0) {
                throw new IllegalArgumentException("no token, or one too many: " + row[i] + " in " + words);
            }
            i += hasA ? 2 : 1;
        }
    }

    /** A new task of a new program that the words say: its number. */
    static int spawn(PollYard yard, String words) {
        int program = program(yard, words);
        if (program < 0) {
            throw new IllegalArgumentException("no future, or one too many: " + words);
        }
        return yard.spawn(program);
    }

    /** The words name a future that ends with its first polling, as the only task of a new yard. */
    static void ends(String words, int standing, int outcome) {
        PollYard yard = new PollYard();
        spawn(yard, words);
        is("turn(0) of " + words, yard.turn(0), 0);
        is("task(0, 0) of " + words, yard.task(0, 0), standing);
        is("task(0, 1) of " + words, yard.task(0, 1), outcome);
    }

    /** All that a yard tells of itself, by SIGHT_CALLS calls. */
    static String sight(PollYard yard) {
        StringBuilder told = new StringBuilder();
        for (int t = 0; t < 12; t++) {
            for (int what = 0; what < 6; what++) {
                told.append(yard.task(t, what)).append(what < 5 ? " " : "; ");
            }
        }
        for (int w = 0; w < 3; w++) {
            for (int what = 0; what < 8; what++) {
                told.append(yard.worker(w, what)).append(what < 7 ? " " : "; ");
            }
        }
        for (int k = 0; k < 12; k++) {
            told.append(yard.injected(k)).append(k < 11 ? " " : "; ");
        }
        for (int what = 0; what < 5; what++) {
            told.append(yard.gate(0, what)).append(' ').append(yard.gate(1, what)).append(what < 4 ? " " : "; ");
        }
        for (int what = 0; what < 8; what++) {
            told.append(yard.count(what)).append(' ');
        }
        return told.toString();
    }

    static void same(String what, String got, String want) {
        if (!got.equals(want)) {
            wrong++;
            System.out.println(what + " shows\n  " + got + "\ndue is\n  " + want);
        }
    }

    static void end() {
        System.out.println(wrong == 0 ? "all answers are as due" : wrong + " answers are not as due");
        if (wrong != 0) {
            System.exit(1);
        }
    }
}
