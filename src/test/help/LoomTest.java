import java.util.Arrays;
import java.util.List;

/** What the tests share: answers that are due, programs as lists of steps, and all that can be seen. */
abstract class LoomTest {
    static final int MIN = Integer.MIN_VALUE;
    static final int MAX = Integer.MAX_VALUE;
    static final int MISSING = 1;
    static final int INDEX = 2;
    static final int SIZE = 3;
    static final int CAST = 4;
    static final int STORE = 5;
    static final int ZERO = 6;
    static final int ROOM = 7;

    private static final int SHOWN = 60;
    static int wrong = 0;

    private static void isWrong(String line) {
        if (wrong++ < SHOWN) System.out.println(line);
    }

    static void due(String what, long got, long want) {
        if (got != want) isWrong(what + " answered " + got + ", due is " + want);
    }

    static void due(String what, boolean got, boolean want) {
        if (got != want) isWrong(what + " answered " + got + ", due is " + want);
    }

    /** By bits: a 0 with a sign is another answer than one without. */
    static void due(String what, double got, double want) {
        if (Double.compare(got, want) != 0) isWrong(what + " answered " + got + ", due is " + want);
    }

    static void finish() {
        System.out.println(wrong == 0 ? "all answers are as due" : wrong + " answers are not as due");
        if (wrong != 0) System.exit(1);
    }

    /** A step: an operation and as many of a, b, c as are wanted. */
    static int[] s(int... parts) {
        return Arrays.copyOf(parts, 4);
    }

    /** A new thing of that kind in Tr; its places, TAG or number come from Ww, a fault's CAUSE from T0. */
    static int[] make(int r, int kind, int w) {
        return kind <= 9 ? s(31, r, kind, w) : kind == 10 ? s(32, r, w, w) : kind <= 14 ? s(33, r, kind, w) : s(67, r, w, 0);
    }

    static int[] make(int r, int kind) {
        return make(r, kind, 7);
    }

    static int[][] with(int[][] first, int[]... more) {
        int[][] all = Arrays.copyOf(first, first.length + more.length);
        System.arraycopy(more, 0, all, first.length, more.length);
        return all;
    }

    /** The same step so many times. */
    static int[][] times(int count, int... step) {
        int[][] all = new int[count][];
        Arrays.fill(all, s(step));
        return all;
    }

    static Loom loom(int[]... steps) {
        Loom x = new Loom();
        for (int k = 0; k < steps.length; k++) {
            int[] p = steps[k];
            int answer = x.put(p[0], p[1], p[2], p[3]);
            if (answer != k + 1) due("put " + Arrays.toString(p), answer, k + 1);
        }
        return x;
    }

    static Loom started(int[]... steps) {
        Loom x = loom(steps);
        due("start", x.start(), steps.length > 0);
        return x;
    }

    /** To its end, if that is not far. */
    static int run(Loom x) {
        int answer = 0;
        for (int k = 0; k < 100 && answer == 0; k++) answer = x.step(100);
        return answer;
    }

    /** So many steps, none of which ends the run. */
    static Loom after(Loom x, int steps) {
        for (int left = steps; left > 0; left -= 100) due("step: there is more", x.step(Math.min(left, 100)), 0);
        return x;
    }

    static Loom ran(int[]... steps) {
        Loom x = started(steps);
        due("a run without failures: step", run(x), 1);
        due("a run without failures: failures", x.state(7), 0);
        return x;
    }

    /** The last step fails with that number, and nobody handles it. */
    static Loom fails(String what, int number, int[]... steps) {
        Loom x = started(steps);
        due(what + ": step", run(x), 2);
        due(what + ": failure", x.state(8), number);
        due(what + ": its place", x.state(9), steps.length - 1);
        due(what + ": where it is", x.state(2), steps.length - 1);
        due(what + ": failures", x.state(7), 1);
        due(what + ": steps done", x.state(3), steps.length);
        due(what + ": stopped", x.state(10), 3);
        return x;
    }

    /** The last step fails with that number and is handled, and all that can be seen is as before it. */
    static Loom failsAndChangesNothing(String what, int number, int[]... steps) {
        int last = steps.length - 1;
        Loom x = loom(with(steps, s(0)));
        x.handler(last, last + 1, 1 << number, last + 1);
        x.start();
        long[] before = seen(after(x, last));
        due(what + ": step, there is more", x.step(1), 0);
        long[] behind = seen(x);
        due(what + ": no failure ahead of it", state(before, 7), 0);
        due(what + ": failures", state(behind, 7), 1);
        due(what + ": failure", state(behind, 8), number);
        due(what + ": its place", state(behind, 9), last);
        due(what + ": it is done, too", state(behind, 3), last + 1);
        due(what + ": on at the handler's place", state(behind, 2), last + 1);
        sameBut(what + " changes nothing", before, behind, "state 2", "state 3", "state 7", "state 8", "state 9");
        return x;
    }

    /** The step behind those fails with that number, nobody handles it, and all that can be seen is as without it. */
    static void stopsAndChangesNothing(String what, int number, int[][] first, int[] step) {
        Loom x = started(with(first, step));
        due(what + ": stops", run(x), 2);
        long[] without = seen(ran(first));
        long[] behind = seen(x);
        due(what + ": failure", state(behind, 8), number);
        due(what + ": its place", state(behind, 9), first.length);
        due(what + ": it is done, too", state(behind, 3), state(without, 3) + 1);
        due(what + ": all CALLs are given up", state(behind, 4), 0);
        sameBut(what + " changes nothing", without, behind, "state 0", "state 3", "state 4", "state 7", "state 8", "state 9", "state 10");
    }

    // Where each answer stands in what seen gives.
    private static final int PER_THING = 40;
    private static final int FIRST_NUMBER = 8 * PER_THING;
    private static final int FIRST_TOLD = FIRST_NUMBER + 20;
    private static final int FIRST_STATE = FIRST_TOLD + 24;
    private static final int SEEN = FIRST_STATE + 11;
    private static final long NOT_ASKED = 0x7ABCDEF012345678L;

    /** All that an object shows: about 150 calls, so that it can be asked twice. */
    static long[] seen(Loom x) {
        long[] all = new long[SEEN];
        Arrays.fill(all, NOT_ASKED);
        for (int r = 0; r < 8; r++) seeThing(x, r, all, r * PER_THING);
        for (int r = 0; r < 8; r++) all[FIRST_NUMBER + r] = x.word(r);
        for (int r = 0; r < 4; r++) {
            all[FIRST_NUMBER + 8 + r] = x.wide(r);
            all[FIRST_NUMBER + 12 + r] = Double.doubleToRawLongBits(x.single(r));
            all[FIRST_NUMBER + 16 + r] = Double.doubleToRawLongBits(x.real(r));
        }
        for (int what = 0; what < 11; what++) all[FIRST_STATE + what] = x.state(what);
        for (int i = 0; i < 24 && i <= state(all, 6); i++) all[FIRST_TOLD + i] = x.told(i);
        return all;
    }

    private static void seeThing(Loom x, int r, long[] all, int at) {
        all[at] = x.kind(r);
        all[at + 1] = x.size(r);
        boolean points = all[at] == 6 || all[at] == 7;
        for (int i = 0; i < all[at + 1]; i++) {
            all[at + 2 + i] = points ? Double.doubleToRawLongBits(x.point(r, i)) : x.cell(r, i);
        }
        for (int what = 0; what < 3 && all[at] > 10; what++) all[at + 20 + what] = x.field(r, what);
        for (int q = r + 1; q < 8; q++) all[at + 30 + q] = x.same(r, q) ? 1 : 0;
    }

    static long state(long[] seen, int what) {
        return seen[FIRST_STATE + what];
    }

    private static String nameOf(int k) {
        if (k >= FIRST_STATE) return "state " + (k - FIRST_STATE);
        if (k >= FIRST_TOLD) return "told " + (k - FIRST_TOLD);
        if (k >= FIRST_NUMBER) {
            int n = k - FIRST_NUMBER;
            return n < 8 ? "W" + n : n < 12 ? "L" + (n - 8) : n < 16 ? "F" + (n - 12) : "D" + (n - 16);
        }
        int part = k % PER_THING;
        String t = "T" + k / PER_THING;
        return part == 0 ? t + " kind" : part == 1 ? t + " size" : part < 20 ? t + " at " + (part - 2)
            : part < 30 ? t + " field " + (part - 20) : t + " same " + (part - 30);
    }

    /** Both are the same, but for what is named. */
    static void sameBut(String what, long[] before, long[] behind, String... but) {
        List<String> free = Arrays.asList(but);
        for (int k = 0; k < before.length; k++) {
            if (before[k] != behind[k] && !free.contains(nameOf(k))) due(what + ": " + nameOf(k), behind[k], before[k]);
        }
    }
}
