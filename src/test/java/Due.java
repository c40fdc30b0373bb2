import java.util.Arrays;
import java.util.List;

/** What the project's tests share: it counts answers that are not the due ones, and writes programs as words. */
final class Due {
    private static final List<String> OPS = Arrays.asList(
            "GIVE", "TURN", "SLEEP", "TAKE", "PUT", "WAIT", "WAKE", "SPAWN",
            "REAP", "FAIL", "THEN", "BOTH", "FIRST", "WITHIN", "ADD", "CATCH");
    private static final List<String> WITHOUT_A = Arrays.asList("REAP", "THEN", "BOTH", "FIRST", "CATCH");

    private static int wrong = 0;

    private Due() {
    }

    static void is(String call, long got, long want) {
        if (got != want) {
            wrong++;
            System.out.println(call + " answered " + got + ", due is " + want);
        }
    }

    static void is(String call, boolean got, boolean want) {
        is(call, got ? 1 : 0, want ? 1 : 0);
    }

    /** The answers of task(t, 0) to task(t, 5), as far as they are given. */
    static void task(PollYard yard, int t, int... wants) {
        for (int what = 0; what < wants.length; what++) {
            is("task(" + t + ", " + what + ")", yard.task(t, what), wants[what]);
        }
    }

    /** Slot and ring of a worker. */
    static void worker(PollYard yard, int w, int slot, int... ring) {
        is("worker(" + w + ", 0)", yard.worker(w, 0), slot);
        is("worker(" + w + ", 2)", yard.worker(w, 2), ring.length);
        for (int k = 0; k < 4; k++) {
            is("worker(" + w + ", " + (3 + k) + ")", yard.worker(w, 3 + k), k < ring.length ? ring[k] : -1);
        }
    }

    static void injector(PollYard yard, int... wants) {
        is("count(5)", yard.count(5), wants.length);
        for (int k = 0; k < wants.length; k++) {
            is("injected(" + k + ")", yard.injected(k), wants[k]);
        }
        is("injected(" + wants.length + ")", yard.injected(wants.length), PollYard.REFUSED);
    }

    /** Defines the program that the words say, as in "THEN TAKE 0 GIVE 3": its number. */
    static int program(PollYard yard, String words) {
        tokens(yard, words);
        return yard.define();
    }

    static void tokens(PollYard yard, String words) {
        String[] row = words.split(" ");
        int i = 0;
        while (i < row.length) {
            int op = OPS.indexOf(row[i]);
            boolean hasA = !WITHOUT_A.contains(row[i]);
            if (yard.token(op, hasA ? Integer.parseInt(row[i + 1]) : 0) < 0) {
                throw new IllegalArgumentException("no token, or one too many: " + row[i] + " in " + words);
            }
            i += hasA ? 2 : 1;
        }
    }

    /** A new task of a new program that the words say: its number. */
    static int spawn(PollYard yard, String words) {
        return yard.spawn(program(yard, words));
    }

    static void end() {
        System.out.println(wrong == 0 ? "all answers are as due" : wrong + " answers are not as due");
        if (wrong != 0) {
            System.exit(1);
        }
    }
}
