import java.util.Random;

/**
 * Steps and handlers that mostly work together: each T register is meant to hold things of one kind,
 * W0 .. W3 small numbers for places and sizes. Without this nearly every random step would fail.
 */
final class RandomProgram {
    private static final int[] NUMBERS = {-1, 0, 1, 2, 3, 4, 5, 6, 7, 12, 13, -2147483648, 2147483647, 65535, 128, -129};
    /** The first steps fill W0 .. W7, L0 .. L3, F0 .. F3, D0 .. D3 and T0 .. T7. */
    private static final int FIRST = 28;

    final int length;
    private final Random z;
    private final int[] kinds = new int[8];

    RandomProgram(Random z, int length) {
        this.z = z;
        this.length = length;
        for (int r = 0; r < 8; r++) kinds[r] = z.nextInt(4) == 0 ? 15 : z.nextInt(16);
        // Pairs that chance seldom brings together: a GRID and a row of WORDS, RINGS and a knot that is no ring.
        if (z.nextInt(3) == 0) {
            kinds[2] = 10;
            kinds[5] = 4;
        } else if (z.nextInt(3) == 0) {
            kinds[2] = 9;
            kinds[5] = 11;
        }
    }

    int[] step(int place) {
        if (place < 4) return new int[] {1, place, z.nextInt(9) - 1, 0};
        if (place < 8) return new int[] {1, place, z.nextBoolean() ? z.nextInt(16) : number(), 0};
        if (place < 12) return new int[] {2, place - 8, z.nextInt(3) == 0 ? number() : 0, number()};
        if (place < 16) return new int[] {15, place - 12, z.nextInt(4), 0};
        if (place < 20) return new int[] {16, place - 16, z.nextInt(4), 0};
        if (place < FIRST) return make(place - 20);
        int op = z.nextInt(74);
        if (op == 0 && z.nextBoolean()) op = 1;
        String s = PlainLoom.shape(op);
        return tame(op, operand(s.charAt(0)), operand(s.charAt(1)), operand(s.charAt(2)));
    }

    /** A handler; a wide one is for all failures of nearly all steps. */
    int[] handler(boolean wide) {
        int from = wide ? 0 : z.nextInt(length);
        int to = wide || z.nextInt(5) == 0 ? z.nextInt(200) : length;
        int mask = wide ? -1 : z.nextInt(3) == 0 ? 1 << z.nextInt(32) : z.nextInt();
        int at = length <= FIRST || z.nextInt(20) == 0 ? z.nextInt(200) : FIRST + z.nextInt(length - FIRST);
        return new int[] {from, to, mask, at};
    }

    private int number() {
        return z.nextInt(6) == 0 ? z.nextInt() : z.nextInt(3) == 0 ? NUMBERS[z.nextInt(NUMBERS.length)] : z.nextInt(4);
    }

    private int operand(char sort) {
        if (sort == '.') return number();
        if (sort == 'P') return z.nextInt(length + 2);
        int low = PlainLoom.low(sort);
        return low + z.nextInt(PlainLoom.high(sort) - low + 1);
    }

    /** A register that is meant to hold a thing of those kinds, if there is one. */
    private int meant(int from, int to) {
        int start = z.nextInt(8);
        for (int k = 0; k < 8; k++) {
            int r = (start + k) % 8;
            if (kinds[r] >= from && kinds[r] <= to) return r;
        }
        return start;
    }

    private int[] make(int r) {
        int kind = kinds[r];
        if (kind <= 9) return new int[] {31, r, kind, z.nextInt(4)};
        if (kind == 10) return new int[] {32, r, z.nextInt(4), z.nextInt(4)};
        if (kind <= 14) return new int[] {33, r, kind, z.nextInt(8)};
        return new int[] {67, r, 4 + z.nextInt(4), r};
    }

    /** Turns random operands into ones that mostly work together. */
    private int[] tame(int op, int a, int b, int c) {
        if (z.nextInt(6) == 0) return new int[] {op, a, b, c};
        if (op == 1 && z.nextInt(3) == 0) return new int[] {1, z.nextInt(4), z.nextInt(5), c};
        if (op >= 31 && op <= 35) return make(z.nextInt(8));
        // W0 .. W3 are for places and sizes: other results go to W4 .. W7.
        if (PlainLoom.shape(op).charAt(0) == 'W' && op != 28) a = 4 + z.nextInt(4);
        if (op >= 39 && op <= 58) {
            int row = (op - 39) % 10;
            b = row == 9 ? meant(10, 10) : row == 8 ? meant(8, 9) : meant(row, row);
            c = z.nextInt(4);
            if (op == 47 || op == 57) a = meant(11, 13);
            if (op == 48 || op == 58) a = meant(4, 4);
        } else if (op >= 59 && op <= 66) {
            b = meant(11, op == 66 ? 14 : 13);
            if (op == 63 || op == 64) a = meant(11, 13);
        } else if (op >= 67 && op <= 71) {
            if (op <= 69) a = meant(15, 15);
            if (op >= 70) b = meant(15, 15);
            if (op == 71) a = b;
            if (op == 67) c = meant(15, 15);
        }
        return new int[] {op, a, b, c};
    }
}
