import java.util.Random;

/**
 * Calls in any order with any arguments, each compared with a PlainLoom, from an object's first call to
 * its 512th: nothing is ever thrown, and what one call leaves is right for the next, whichever it is.
 */
public final class AnyCallsTest extends LoomTest {
    private static final int OBJECTS = 3000;
    private static final int[] EDGES = {MIN, MIN + 1, -201, -2, -1, 0, 1, 2, 3, 4, 7, 8, 9, 10, 11, 12, 13, 14, 15, 16, 17, 23, 73, 74,
        99, 100, 101, 149, 150, 151, 199, 200, 201, 65536, MAX - 1, MAX};

    private final Random z;
    private final Loom x = new Loom();
    private final PlainLoom p;
    private final int number;
    private final RandomProgram program;

    private AnyCallsTest(Random z, int number, long[] worked, long[] failed) {
        this.z = z;
        this.number = number;
        p = new PlainLoom(worked, failed);
        program = new RandomProgram(z, number % 50 == 0 ? 150 : 1 + z.nextInt(100));
    }

    private int any() {
        return z.nextInt(8) == 0 ? z.nextInt() : EDGES[z.nextInt(EDGES.length)];
    }

    private int below(int bound) {
        return z.nextInt(20) == 0 ? any() : z.nextInt(bound);
    }

    private String at(String call) {
        return "object " + number + ", call " + (Loom.CALL_LIMIT - x.callsLeft()) + ": " + call;
    }

    private void put() {
        int[] v = program.step(p.state(0));
        if (z.nextInt(8) == 0) v[z.nextInt(4)] = any();
        due(at("put " + v[0] + " " + v[1] + " " + v[2] + " " + v[3]), x.put(v[0], v[1], v[2], v[3]), p.put(v[0], v[1], v[2], v[3]));
    }

    private void handler() {
        int[] v = program.handler(z.nextInt(4) == 0);
        if (z.nextInt(8) == 0) v[z.nextInt(4)] = any();
        due(at("handler " + v[0] + " " + v[1] + " " + v[2] + " " + v[3]), x.handler(v[0], v[1], v[2], v[3]), p.handler(v[0], v[1], v[2], v[3]));
    }

    private void look() {
        int r = below(9);
        int i = below(13);
        switch (z.nextInt(12)) {
            case 0: due(at("word " + r), x.word(r), p.word(r)); break;
            case 1: due(at("wide " + r), x.wide(r), p.wide(r)); break;
            case 2: due(at("single " + r), x.single(r), p.single(r)); break;
            case 3: due(at("real " + r), x.real(r), p.real(r)); break;
            case 4: due(at("kind " + r), x.kind(r), p.kind(r)); break;
            case 5: due(at("size " + r), x.size(r), p.size(r)); break;
            case 6: due(at("cell " + r + " " + i), x.cell(r, i), p.cell(r, i)); break;
            case 7: due(at("point " + r + " " + i), x.point(r, i), p.point(r, i)); break;
            case 8: due(at("field " + r + " " + i % 4), x.field(r, i % 4), p.field(r, i % 4)); break;
            case 9: due(at("same " + r + " " + i), x.same(r, i), p.same(r, i)); break;
            case 10: due(at("told " + i), x.told(i), p.told(i)); break;
            default: due(at("state " + i), x.state(i), p.state(i)); break;
        }
    }

    private void step() {
        int n = z.nextInt(15) == 0 ? any() : z.nextInt(3) == 0 ? 100 : z.nextInt(12);
        due(at("step " + n), x.step(n), p.step(n));
    }

    private void start() {
        due(at("start"), x.start(), p.start());
    }

    /** A program is filled first, so that there is something to run; then comes what may. */
    private void next() {
        boolean filled = p.state(0) >= program.length && p.state(1) > 0;
        int choice = z.nextInt(100);
        if (choice == 0) due(at("clear"), x.clear(), p.clear());
        else if (!filled && choice < 80 || choice == 1) put();
        else if (!filled && choice < 90 || choice == 2) handler();
        else if (p.state(10) != 1 && choice < 20 || choice == 3) start();
        else if (choice < 40) step();
        else look();
    }

    public static void main(String[] args) {
        Random z = new Random(512L);
        long[] worked = new long[74];
        long[] failed = new long[24];
        for (int k = 0; k < OBJECTS && wrong <= 40; k++) {
            AnyCallsTest one = new AnyCallsTest(z, k, worked, failed);
            while (one.x.callsLeft() > 0) one.next();
        }
        // Calls that never got somewhere would prove nothing.
        for (int op = 0; op < 74; op++) due("operation " + op + " was done", op == 68 || worked[op] > 0, true);
        for (int n = 1; n < 24; n++) due("failure " + n + " was met", failed[n] > 0, true);
        finish();
    }
}
