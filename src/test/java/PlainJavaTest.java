import java.util.Random;

/** Random programs, run by FaultLoom and by a PlainLoom. All that can be seen must agree. */
public final class PlainJavaTest extends LoomTest {
    private static final int PROGRAMS = 30000;
    private static final int ODD_PROGRAMS = 600;

    static void compareNumbers(String run, Loom x, PlainLoom p) {
        for (int r = 0; r < 4; r++) {
            due(run + "single " + r, x.single(r), p.single(r));
            due(run + "real " + r, x.real(r), p.real(r));
        }
    }

    static void compareThing(String run, Loom x, PlainLoom p, int r) {
        due(run + "kind " + r, x.kind(r), p.kind(r));
        due(run + "size " + r, x.size(r), p.size(r));
        for (int i = -1; i <= p.size(r); i++) {
            due(run + "cell " + r + " " + i, x.cell(r, i), p.cell(r, i));
            due(run + "point " + r + " " + i, x.point(r, i), p.point(r, i));
        }
        for (int k = 0; k < 3; k++) due(run + "field " + r + " " + k, x.field(r, k), p.field(r, k));
        for (int q = r; q < 8; q++) due(run + "same " + r + " " + q, x.same(r, q), p.same(r, q));
    }

    static void compare(String run, Loom x, PlainLoom p) {
        compareNumbers(run, x, p);
        for (int r = 0; r < 4; r++) due(run + "wide " + r, x.wide(r), p.wide(r));
        for (int r = 0; r < 8; r++) {
            due(run + "word " + r, x.word(r), p.word(r));
            compareThing(run, x, p, r);
        }
        int last = p.told.size() - 1;
        for (int i : new int[] {-1, 0, 1, 2, last - 1, last, last + 1, 199, 200}) due(run + "told " + i, x.told(i), p.told(i));
        for (int k = -1; k < 12; k++) due(run + "state " + k, x.state(k), p.state(k));
    }

    static void add(Loom x, PlainLoom p, int op, int a, int b, int c) {
        due("put " + op + " " + a + " " + b + " " + c, x.put(op, a, b, c), p.put(op, a, b, c));
    }

    static void program(Random z, int number, long[] worked, long[] failed) {
        Loom x = new Loom();
        PlainLoom p = new PlainLoom(worked, failed);
        RandomProgram program = new RandomProgram(z, 38 + z.nextInt(60));
        for (int k = 0; k < program.length; k++) {
            int[] s = program.step(k);
            add(x, p, s[0], s[1], s[2], s[3]);
        }
        int handlers = z.nextInt(10) == 0 ? 0 : 1 + z.nextInt(8);
        boolean wide = z.nextInt(4) > 0;
        for (int k = 0; k < handlers; k++) {
            int[] h = program.handler(wide && k == handlers - 1);
            due("handler", x.handler(h[0], h[1], h[2], h[3]), p.handler(h[0], h[1], h[2], h[3]));
        }
        // One look at the end of one or two runs: more would be calls beyond the 512th.
        for (int again = z.nextInt(2); again >= 0; again--) {
            due("start", x.start(), p.start());
            for (int k = z.nextInt(6); k >= 0; k--) {
                int n = z.nextInt(10) == 0 ? 100 : z.nextInt(30);
                due("program " + number + " step", x.step(n), p.step(n));
            }
        }
        compare("program " + number + ": ", x, p);
    }

    /** Long chains of halves and rests, so that the smallest singles and doubles are met. */
    static void halves(Random z, int number, long[] worked, long[] failed) {
        Loom x = new Loom();
        PlainLoom p = new PlainLoom(worked, failed);
        for (int r = 0; r < 4; r++) add(x, p, 2, r, z.nextBoolean() ? z.nextInt() : z.nextInt(3) - 1, z.nextInt());
        for (int r = 0; r < 4; r++) add(x, p, 15, r, r, 0);
        for (int r = 0; r < 4; r++) add(x, p, 16, r, r, 0);
        for (int k = 0; k < 40; k++) add(x, p, 21 + z.nextInt(2), z.nextInt(2), z.nextInt(2), 0);
        add(x, p, 24, 2, 3, 0);
        add(x, p, 24, 2, 2, 1);
        add(x, p, 23, 2, 3, 0);
        add(x, p, 23, 2, 2, 1);
        add(x, p, 24, 3, 3, 2);
        add(x, p, 23, 3, 3, 2);
        add(x, p, 16, 3, z.nextInt(4), 0);
        add(x, p, 15, 3, z.nextInt(4), 0);
        add(x, p, 20, z.nextInt(3), z.nextInt(4), 0);
        add(x, p, 27, 12, 0, 0);
        // A divisor that has come down to 0: on with the numbers of the beginning.
        due("handler", x.handler(0, 199, -1, 4), p.handler(0, 199, -1, 4));
        due("start", x.start(), p.start());
        for (int k = 0; k < 30; k++) {
            int n = 30 + z.nextInt(71);
            due("halves " + number + " step", x.step(n), p.step(n));
            compareNumbers("halves " + number + " call " + k + ": ", x, p);
        }
        compare("halves " + number + ": ", x, p);
    }

    /** put with an operand next to what it may name, and one far from it. */
    static void operands() {
        for (int op = -2; op < 77; op++) {
            String s = op >= 0 && op <= 73 ? PlainLoom.shape(op) : "...";
            for (int at = 0; at < 3; at++) {
                int low = PlainLoom.low(s.charAt(at));
                int high = PlainLoom.high(s.charAt(at));
                for (int value : new int[] {low, high, low - 1, high + 1, MIN, MAX, -1}) {
                    int[] v = {PlainLoom.low(s.charAt(0)), PlainLoom.low(s.charAt(1)), PlainLoom.low(s.charAt(2))};
                    v[at] = value;
                    due("put " + op + " " + v[0] + " " + v[1] + " " + v[2],
                        new Loom().put(op, v[0], v[1], v[2]), PlainLoom.isStep(op, v) ? 1 : -1);
                }
            }
        }
    }

    public static void main(String[] args) {
        Random z = new Random(20261116L);
        long[] worked = new long[74];
        long[] failed = new long[24];
        operands();
        for (int k = 0; k < PROGRAMS && wrong <= 40; k++) program(z, k, worked, failed);
        for (int k = 0; k < ODD_PROGRAMS && wrong <= 40; k++) halves(z, k, worked, failed);
        // Programs that never got somewhere would prove nothing.
        for (int op = 0; op < 74; op++) due("operation " + op + " was done often", op == 68 || worked[op] > 60 ? 1 : 0, 1);
        for (int n = 1; n < 24; n++) due("failure " + n + " was met often", failed[n] > 50 ? 1 : 0, 1);
        finish();
    }
}
