/**
 * The edges of the registers with numbers, of the operations 1 to 26 and of promises 7 to 10: what
 * wraps, what is cut to its lowest bits, what goes towards 0, what is rounded and what is beyond all.
 */
public final class NumberEdgesTest extends LoomTest {
    private static final long LEAST = Long.MIN_VALUE;
    private static final long MOST = Long.MAX_VALUE;

    private static int[] setLong(int r, long value) {
        return s(2, r, (int) (value >> 32), (int) value);
    }

    /** "Wr; 0 if there is none such." and so on: the first, the last, and those next to them. */
    private static void registers() {
        int[][] all = new int[0][];
        for (int r = 0; r < 8; r++) all = with(all, s(1, r, 10 + r));
        for (int r = 0; r < 4; r++) all = with(all, setLong(r, 20 + r), s(15, r, r), s(16, r, r));
        for (int r = 0; r < 4; r++) all = with(all, s(21, r, r), s(22, r, r), s(22, r, r));
        Loom x = ran(all);
        for (int r : new int[] {MIN, -8, -4, -1, 0, 1, 2, 3, 4, 5, 6, 7, 8, 9, 256, MAX}) {
            boolean four = r >= 0 && r < 4;
            due("word " + r, x.word(r), r >= 0 && r < 8 ? 10 + r : 0);
            due("wide " + r, x.wide(r), four ? 20 + r : 0);
            due("single " + r, x.single(r), four ? (20 + r) / 2.0 : 0.0);
            due("real " + r, x.real(r), four ? (20 + r) / 4.0 : 0.0);
        }
    }

    /** W0 := x, W1 := y, W2 := W0 op W1, and the same with the result in W0, then in W1. */
    private static void words(int op, int left, int right, int due) {
        for (int a = 0; a < 3; a++) {
            Loom x = ran(s(1, 0, left), s(1, 1, right), s(op, a, 0, 1));
            due(op + " of " + left + ", " + right + " in W" + a, x.word(a), due);
            for (int r = 0; r < 2; r++) if (r != a) due(op + " leaves W" + r, x.word(r), r == 0 ? left : right);
        }
    }

    private static void longs(int op, long left, long right, long due) {
        for (int a = 0; a < 3; a++) {
            Loom x = ran(setLong(0, left), setLong(1, right), s(op, a, 0, 1));
            due(op + " of " + left + ", " + right + " in L" + a, x.wide(a), due);
            for (int r = 0; r < 2; r++) if (r != a) due(op + " leaves L" + r, x.wide(r), r == 0 ? left : right);
        }
    }

    /** 1 to 6: the least and the greatest word; "(They wrap.)" */
    private static void wordsWrap() {
        for (int v : new int[] {MIN, MIN + 1, -1, 0, 1, MAX - 1, MAX}) {
            Loom x = ran(s(1, 0, v), s(3, 7, 0));
            due("1: W0 := " + v, x.word(0), v);
            due("3: W7 := W0", x.word(7), v);
        }
        words(4, MAX, 0, MAX);
        words(4, MAX, 1, MIN);
        words(4, MIN, 0, MIN);
        words(4, MIN, -1, MAX);
        words(4, MAX, MAX, -2);
        words(4, MIN, MIN, 0);
        words(5, MIN, 0, MIN);
        words(5, MIN, 1, MAX);
        words(5, MAX, -1, MIN);
        words(5, MAX, 0, MAX);
        words(5, 0, MIN, MIN);
        words(5, -1, MIN, MAX);
        words(6, 65536, 32767, 2147418112);
        words(6, 65536, 32768, MIN);
        words(6, 65536, 65536, 0);
        words(6, MIN, -1, MIN);
        words(6, MAX, MAX, 1);
        words(6, 46341, 46341, -2147479015);
        words(6, -3, 5, -15);
    }

    /** "7 Wa := Wb / Wc, towards 0.", "8 Wa := what 7 leaves, with Wb's sign." */
    private static void wordsDivide() {
        int[][] rows = {{7, 2, 3, 1}, {-7, 2, -3, -1}, {7, -2, -3, 1}, {-7, -2, 3, -1}, {1, 2, 0, 1}, {-1, 2, 0, -1}, {2, 2, 1, 0}, {-2, 2, -1, 0},
            {0, 5, 0, 0}, {0, -5, 0, 0}, {MIN, -1, MIN, 0}, {MIN, 1, MIN, 0}, {MIN, 2, -1073741824, 0}, {MIN, MIN, 1, 0}, {MAX, -1, -MAX, 0},
            {MAX, MIN, 0, MAX}, {MIN, MAX, -1, -1}, {MIN + 1, -1, MAX, 0}, {-1, MIN, 0, -1}, {MAX, MAX, 1, 0}};
        for (int[] r : rows) {
            words(7, r[0], r[1], r[2]);
            words(8, r[0], r[1], r[3]);
        }
        Loom x = ran(s(1, 3, -9), s(7, 3, 3, 3), s(1, 4, -9), s(8, 4, 4, 4));
        due("7 by itself", x.word(3), 1);
        due("8 by itself", x.word(4), 0);
    }

    /** "2 La := b * 2^32 + c, c without sign." */
    private static void longsOfTwoWords() {
        long[][] rows = {{0, 0, 0}, {0, 1, 1}, {0, MAX, 2147483647L}, {0, MIN, 2147483648L}, {0, -1, 4294967295L}, {1, 0, 4294967296L},
            {1, -1, 8589934591L}, {-1, 0, -4294967296L}, {-1, -1, -1}, {-1, MAX, -2147483649L}, {-1, MIN, -2147483648L}, {MAX, -1, MOST}, {MIN, 0, LEAST}, {MIN, -1, LEAST + 4294967295L}};
        for (long[] r : rows) due("2: " + r[0] + ", " + r[1], ran(s(2, 3, (int) r[0], (int) r[1])).wide(3), r[2]);
    }

    /** 9 to 12: as with words. */
    private static void longsWrapAndDivide() {
        longs(9, MOST, 0, MOST);
        longs(9, MOST, 1, LEAST);
        longs(9, LEAST, -1, MOST);
        longs(9, 4294967295L, 1, 4294967296L);
        longs(9, MAX, 1, 2147483648L);
        longs(10, 4294967296L, 2147483647L, 9223372032559808512L);
        longs(10, 4294967296L, 2147483648L, LEAST);
        longs(10, 4294967296L, 4294967296L, 0);
        longs(10, LEAST, -1, LEAST);
        longs(10, MOST, MOST, 1);
        longs(10, MAX, 2, 4294967294L);
        long[][] rows = {{7, 2, 3, 1}, {-7, 2, -3, -1}, {7, -2, -3, 1}, {-7, -2, 3, -1}, {1, 2, 0, 1}, {-1, 2, 0, -1}, {0, -5, 0, 0}, {LEAST, -1, LEAST, 0},
            {LEAST, 1, LEAST, 0}, {LEAST, LEAST, 1, 0}, {MOST, LEAST, 0, MOST}, {LEAST, MOST, -1, -1}, {LEAST + 1, -1, MOST, 0},
            {4294967296L, 4294967296L, 1, 0}, {5, 4294967296L, 0, 5}, {-4294967297L, 4294967296L, -1, -1}};
        for (long[] r : rows) {
            longs(11, r[0], r[1], r[2]);
            longs(12, r[0], r[1], r[3]);
        }
    }

    /** "13 La := Wb.", "14 Wa := Lb's lowest 32 bits." */
    private static void wordsAndLongs() {
        for (int v : new int[] {MIN, -1, 0, 1, MAX}) due("13 of " + v, ran(s(1, 7, v), s(2, 3, 5, 5), s(13, 3, 7)).wide(3), v);
        long[][] rows = {{MAX, MAX}, {2147483648L, MIN}, {4294967295L, -1}, {4294967296L, 0}, {4294967297L, 1}, {-2147483648L, MIN}, {-2147483649L, MAX},
            {-4294967296L, 0}, {MOST, -1}, {LEAST, 0}, {LEAST + 7, 7}, {0x123456789ABCDEF0L, 0x9ABCDEF0}};
        for (long[] r : rows) due("14 of " + r[0], ran(setLong(3, r[0]), s(14, 7, 3)).word(7), r[1]);
    }

    /** "those nearest to the value, of two as near the one whose last bit is 0": 15 and 16. */
    private static void nextToALong() {
        long two24 = 1L << 24;
        long two53 = 1L << 53;
        long[][] singles = {{0, 0}, {1, 1}, {-1, -1}, {two24 - 1, two24 - 1}, {two24, two24}, {two24 + 1, two24}, {two24 + 2, two24 + 2}, {two24 + 3, two24 + 4},
            {-two24 - 1, -two24}, {-two24 - 3, -two24 - 4}, {2 * two24 - 1, 2 * two24}, {2 * two24 + 2, 2 * two24}, {2 * two24 + 3, 2 * two24 + 4}, {2 * two24 + 6, 2 * two24 + 8},
            // A little above and below the middle of two singles, less than a double can tell.
            {((two24 + 1) << 30) + 1, (two24 + 2) << 30}, {((two24 + 1) << 30) - 1, two24 << 30}, {(two24 + 1) << 30, two24 << 30},
            {-((two24 + 1) << 30) - 1, -((two24 + 2) << 30)}, {LEAST, LEAST}, {LEAST + 1, LEAST}, {MAX, 1L << 31}, {MIN, MIN}};
        for (long[] r : singles) {
            Loom x = ran(setLong(3, r[0]), s(15, 3, 3));
            due("15 of " + r[0], x.single(3), (double) r[1]);
        }
        due("15 of the greatest long", ran(setLong(0, MOST), s(15, 0, 0)).single(0), 9223372036854775808.0);
        due("15: the last that goes down", ran(setLong(0, MOST - (1L << 38)), s(15, 0, 0)).single(0), 9223371487098961920.0);
        due("15: the first that goes up", ran(setLong(0, MOST - (1L << 38) + 1), s(15, 0, 0)).single(0), 9223372036854775808.0);
        long[][] doubles = {{0, 0}, {-1, -1}, {two53 - 1, two53 - 1}, {two53, two53}, {two53 + 1, two53}, {two53 + 2, two53 + 2}, {two53 + 3, two53 + 4}, {-two53 - 1, -two53},
            {-two53 - 3, -two53 - 4}, {2 * two53 + 2, 2 * two53}, {2 * two53 + 3, 2 * two53 + 4}, {2 * two53 + 6, 2 * two53 + 8}, {LEAST, LEAST}, {LEAST + 512, LEAST}, {LEAST + 513, LEAST + 1024},
            {two24 + 1, two24 + 1}};
        for (long[] r : doubles) {
            Loom x = ran(setLong(3, r[0]), s(16, 3, 3), s(18, 0, 3));
            due("16 of " + r[0], x.real(3), (double) r[1]);
            due("16 of " + r[0] + ", exactly", (long) x.real(3), r[1]);
        }
        due("16 of the greatest long", ran(setLong(0, MOST), s(16, 0, 0)).real(0), 9223372036854775808.0);
        due("16: the last that goes down", ran(setLong(0, MOST - 512), s(16, 0, 0)).real(0), 9223372036854774784.0);
        due("16: the first that goes up", ran(setLong(0, MOST - 511), s(16, 0, 0)).real(0), 9223372036854775808.0);
    }

    /** Steps that halve Fr (21) or Dr (22) so many times, behind those of first; they use W5 and W6. */
    private static int[][] halved(int[][] first, int op, int r, int times) {
        int loop = first.length + 2;
        return with(first, s(1, 6, times), s(1, 5, 1), s(28, 6, loop + 4), s(op, r, r), s(5, 6, 6, 5), s(27, loop));
    }

    /** Fr := value / 2^times, or Dr with 16, 22. */
    private static int[][] single(int[][] first, int r, long value, int times) {
        return halved(with(first, setLong(r, value), s(15, r, r)), 21, r, times);
    }

    private static int[][] real(int[][] first, int r, long value, int times) {
        return halved(with(first, setLong(r, value), s(16, r, r)), 22, r, times);
    }

    private static final int[][] NONE = {};

    /** "17 La := Fb towards 0, the nearest long if it is beyond all." */
    private static void longOfASingle() {
        long[][] rows = {{1, 0, 1}, {-1, 0, -1}, {1, 1, 0}, {-1, 1, 0}, {3, 1, 1}, {-3, 1, -1}, {7, 2, 1}, {-7, 2, -1}, {0, 0, 0}, {16777215, 1, 8388607}, {-16777215, 1, -8388607},
            {16777215, 24, 0}, {-1, 149, 0}, {-1, 160, 0}, {LEAST, 0, LEAST}, {LEAST, 1, LEAST / 2}, {MOST, 1, 1L << 62},
            {MOST - (1L << 39) + 1, 0, MOST - (1L << 39) + 1}, {MOST, 0, MOST}};
        for (long[] r : rows) due("17 of " + r[0] + " / 2^" + r[1], ran(with(single(NONE, 3, r[0], (int) r[1]), setLong(3, 5), s(17, 3, 3))).wide(3), r[2]);
    }

    /** "18 Wa := Db towards 0, the nearest word if it is beyond all." */
    private static void wordOfADouble() {
        long[][] rows = {{1, 0, 1}, {-1, 0, -1}, {1, 1, 0}, {-1, 1, 0}, {3, 1, 1}, {-3, 1, -1}, {0, 0, 0}, {-1, 1080, 0}, {(1L << 53) - 1, 53, 0}, {-(1L << 53) + 1, 53, 0},
            {MAX, 0, MAX}, {2L * MAX + 1, 1, MAX}, {2L * MAX - 1, 1, MAX - 1}, {2147483648L, 0, MAX}, {4294967296L, 0, MAX}, {MOST, 0, MAX}, {1L << 40, 0, MAX},
            {MIN, 0, MIN}, {2L * MIN - 1, 1, MIN}, {2L * MIN + 1, 1, MIN + 1}, {-2147483649L, 0, MIN}, {-4294967296L, 0, MIN}, {LEAST, 0, MIN}};
        for (long[] r : rows) due("18 of " + r[0] + " / 2^" + r[1], ran(with(real(NONE, 3, r[0], (int) r[1]), s(18, 7, 3))).word(7), r[2]);
    }

    /** "19 Da := Fb." exactly, "20 Fa := the single next to Db." */
    private static void singlesAndDoubles() {
        for (long[] r : new long[][] {{16777215, 0}, {-16777215, 30}, {1, 149}, {-3, 149}, {-1, 150}, {1, 150}, {MOST, 0}, {LEAST, 0}}) {
            Loom x = ran(with(single(NONE, 1, r[0], (int) r[1]), s(19, 2, 1)));
            due("19 of " + r[0] + " / 2^" + r[1], x.real(2), x.single(1));
        }
        due("19: the smallest single", ran(with(single(NONE, 1, 1, 149), s(19, 2, 1))).real(2), 0x1p-149);
        due("19: a 0 with a sign", ran(with(single(NONE, 1, -1, 150), s(19, 2, 1))).real(2), -0.0);
        long two24 = 1L << 24;
        Object[][] rows = {{two24 + 1, 0, 0x1p24}, {two24 + 3, 0, 0x1p24 + 4}, {-two24 - 1, 0, -0x1p24}, {-two24 - 3, 0, -0x1p24 - 4},
            {((two24 + 1) << 28) + 1, 0, 0x1.000002p52}, {((two24 + 1) << 28) - 1, 0, 0x1p52}, {two24 + 1, 24, 1.0}, {two24 + 3, 24, 0x1.000004p0},
            // Below the smallest: the middle goes to 0, all above it up.
            {1L, 149, 0x1p-149}, {1L, 150, 0.0}, {-1L, 150, -0.0}, {3L, 151, 0x1p-149}, {-3L, 151, -0x1p-149}, {(1L << 52) + 1, 202, 0x1p-149}, {(1L << 53) - 1, 203, 0.0},
            {3L, 150, 0x1p-148}, {5L, 150, 0x1p-148}, {7L, 150, 0x1p-147}, {1L, 1000, 0.0}, {-1L, 1000, -0.0}, {-1L, 1080, -0.0}, {1L, 0, 1.0}, {0L, 0, 0.0},
            {1L, 126, 0x1p-126}, {two24 + 1, 150, 0x1p-126}, {two24 - 1, 150, 0x1p-126}, {two24 - 3, 150, 0x1.fffff8p-127}, {MOST, 0, 0x1p63}};
        for (Object[] r : rows) {
            Loom x = ran(with(real(NONE, 1, (Long) r[0], (Integer) r[1]), s(20, 3, 1)));
            due("20 of " + r[0] + " / 2^" + r[1], x.single(3), (double) (Double) r[2]);
        }
    }

    /** "21 Fa := Fb / 2.", "22 Da := Db / 2.", down to the smallest and beyond it. */
    private static void halves() {
        Object[][] singles = {{1L, 1, 0.5}, {-3L, 1, -1.5}, {1L, 126, 0x1p-126}, {1L, 127, 0x1p-127}, {1L, 148, 0x1p-148}, {1L, 149, 0x1p-149}, {1L, 150, 0.0}, {1L, 151, 0.0}, {-1L, 149, -0x1p-149}, {-1L, 150, -0.0},
            {3L, 149, 0x1.8p-148}, {3L, 150, 0x1p-148}, {5L, 150, 0x1p-148}, {7L, 150, 0x1p-147}, {16777215L, 150, 0x1p-126}, {16777213L, 150, 0x1.fffff8p-127}, {LEAST, 1, -0x1p62}};
        for (Object[] r : singles) due("21: " + r[0] + " / 2^" + r[1], ran(single(NONE, 2, (Long) r[0], (Integer) r[1])).single(2), (double) (Double) r[2]);
        Object[][] doubles = {{1L, 1, 0.5}, {-3L, 1, -1.5}, {1L, 149, 0x1p-149}, {1L, 150, 0x1p-150}, {1L, 1022, 0x1p-1022}, {1L, 1023, 0x1p-1023}, {1L, 1073, 0x1p-1073}, {1L, 1074, 0x1p-1074}, {1L, 1075, 0.0},
            {-1L, 1074, -0x1p-1074}, {-1L, 1075, -0.0}, {3L, 1075, 0x1p-1073}, {5L, 1075, 0x1p-1073}, {7L, 1075, 0x1p-1072}, {(1L << 53) - 1, 1075, 0x1p-1022}, {(1L << 53) - 3, 1075, 0x1.ffffffffffffcp-1023}};
        for (Object[] r : doubles) due("22: " + r[0] + " / 2^" + r[1], ran(real(NONE, 2, (Long) r[0], (Integer) r[1])).real(2), (double) (Double) r[2]);
        Loom x = ran(with(with(single(NONE, 2, -5, 0), s(16, 2, 2)), s(21, 0, 2), s(22, 3, 2)));
        due("21 leaves Fb", x.single(2), -5.0);
        due("21 in another", x.single(0), -2.5);
        due("22 leaves Db", x.real(2), -5.0);
        due("22 in another", x.real(3), -2.5);
    }

    private static final long[][] PARTS = {{1, 0}, {-1, 0}, {0, 0}, {3, 0}, {-3, 1}, {7, 0}, {10, 0}, {16777215, 0}, {-16777215, 12}, {MOST, 0}, {LEAST, 0}, {1, 149}, {-3, 149}, {16777215, 149},
        {-1, 160}, {MAX, 3}, {1000003, 10}, {1, 126}};
    private static final long[][] WIDE_PARTS = {{1, 0}, {-3, 1}, {7, 0}, {(1L << 53) - 1, 0}, {-(1L << 53) + 1, 12}, {MOST, 0}, {LEAST, 0}, {1, 1074}, {-3, 1074}, {(1L << 53) - 1, 1074}, {-1, 1080}, {1, 1022}, {1000003, 700}};

    /** "23 Fa := Fb less as many Fc as go in it towards 0 (exactly; with Fb's sign).", "24 likewise with doubles." */
    private static void rests() {
        double[][] rows = {{7, 2, 1}, {-7, 2, -1}, {7, -2, 1}, {-7, -2, -1}, {1, 2, 1}, {-1, 2, -1}, {2, 2, 0}, {-2, 2, -0.0}, {2, -2, 0}, {0, 3, 0}, {6, 4, 2}, {9007199254740991.0, 2, 1}};
        for (double[] r : rows) {
            int[][] both = {setLong(0, (long) r[0]), setLong(1, (long) r[1]), s(16, 0, 0), s(16, 1, 1), s(20, 0, 0), s(20, 1, 1), s(23, 2, 0, 1), s(24, 2, 0, 1)};
            Loom x = ran(both);
            if (Math.abs(r[0]) < 1000) due("23 of " + r[0] + ", " + r[1], x.single(2), r[2]);
            due("24 of " + r[0] + ", " + r[1], x.real(2), r[2]);
        }
        for (long[] p : PARTS) {
            for (long[] q : PARTS) {
                int[][] both = single(single(NONE, 0, p[0], (int) p[1]), 1, q[0], (int) q[1]);
                Loom x = ran(both);
                float left = (float) x.single(0);
                float right = (float) x.single(1);
                for (int a = 0; a < 3; a++) {
                    String what = "23 of " + left + ", " + right + " in F" + a;
                    if (right == 0) stopsAndChangesNothing(what, ZERO, both, s(23, a, 0, 1));
                    else due(what, ran(with(both, s(23, a, 0, 1))).single(a), (double) (left % right));
                }
            }
        }
        for (long[] p : WIDE_PARTS) {
            for (long[] q : WIDE_PARTS) {
                int[][] both = real(real(NONE, 0, p[0], (int) p[1]), 1, q[0], (int) q[1]);
                Loom x = ran(both);
                double left = x.real(0);
                double right = x.real(1);
                for (int a = 0; a < 3; a++) {
                    String what = "24 of " + left + ", " + right + " in D" + a;
                    if (right == 0) stopsAndChangesNothing(what, ZERO, both, s(24, a, 0, 1));
                    else due(what, ran(with(both, s(24, a, 0, 1))).real(a), left % right);
                }
            }
        }
    }

    /** "6 ZERO: Wc, Lc, Fc, Dc is 0 (7, 8, 11, 12, 23, 24)": with any dividend, and no other operand. */
    private static void zero() {
        for (int left : new int[] {0, 1, -1, MIN, MAX}) {
            int[][] numbers = {s(1, 0, left), s(13, 0, 0), s(15, 0, 0), s(16, 0, 0), s(1, 1, 1), s(13, 1, 1), s(15, 1, 1), s(16, 1, 1)};
            for (int op : new int[] {7, 8, 11, 12, 23, 24}) {
                for (int a = 0; a < 3; a++) failsAndChangesNothing(op + " of " + left + " by 0", ZERO, with(numbers, s(op, a, 0, 3)));
                failsAndChangesNothing(op + " of 0 by itself", ZERO, with(numbers, s(op, 3, 3, 3)));
                due(op + " by 1 does not fail", ran(with(numbers, s(op, 2, 0, 1))).state(7), 0);
                due(op + " of 0 by 1 does not fail", ran(with(numbers, s(op, 0, 3, 1))).state(7), 0);
            }
        }
        int[][] others = {s(1, 1, -1), s(13, 1, 1)};
        for (int op : new int[] {4, 5, 6, 9, 10, 25, 26}) due(op + " with 0 does not fail", ran(with(others, s(op, 2, 1, 3))).state(7), 0);
    }

    /** "25 Wa := 1 if Wb < Wc, else 0.", "26 likewise with Db, Dc." */
    private static void less() {
        int[] values = {MIN, MIN + 1, -1, 0, 1, MAX - 1, MAX};
        for (int i = 0; i < values.length; i++) {
            for (int k = 0; k < values.length; k++) words(25, values[i], values[k], i < k ? 1 : 0);
        }
        long[][] parts = {{LEAST, 0}, {-1, 0}, {-1, 1}, {-1, 1074}, {0, 0}, {1, 1074}, {1, 1}, {(1L << 53) - 1, 53}, {1, 0}, {MOST, 0}};
        for (int i = 0; i < parts.length; i++) {
            for (int k = 0; k < parts.length; k++) {
                Loom x = ran(with(real(real(NONE, 0, parts[i][0], (int) parts[i][1]), 1, parts[k][0], (int) parts[k][1]), s(1, 7, 9), s(26, 7, 0, 1)));
                due("26 of " + x.real(0) + ", " + x.real(1), x.word(7), i < k ? 1 : 0);
            }
        }
        due("26: a 0 with a sign is not less than 0", ran(with(real(NONE, 0, -1, 1075), s(1, 7, 9), s(26, 7, 0, 1))).word(7), 0);
        due("26: 0 is not less than a 0 with a sign", ran(with(real(NONE, 0, -1, 1075), s(1, 7, 9), s(26, 7, 1, 0))).word(7), 0);
    }

    /** Each operation 1 to 26 changes the register that it names first, and no other. */
    private static void noOtherRegister() {
        int[][] numbers = {s(1, 0, 9), s(1, 1, 5), s(1, 2, 2), s(1, 3, 1), s(1, 4, -4), s(1, 5, 5), s(1, 6, 6), s(1, 7, 7)};
        for (int r = 0; r < 4; r++) numbers = with(numbers, s(13, r, r), s(15, r, 3 - r), s(16, r, r), s(21, r, r), s(22, r, r));
        String changed = "WLWWWWWWLLLLLWFDLWDFFDFDWW";
        for (int op = 1; op <= 26; op++) {
            for (int a = 0; a < 4; a++) {
                int length = numbers.length;
                Loom x = after(started(with(numbers, s(op, a, 3, 2), s(0))), length);
                long[] before = seen(x);
                due(op + ": there is more", x.step(1), 0);
                sameBut(op + " changes nothing else", before, seen(x), changed.charAt(op - 1) + "" + a, "state 2", "state 3");
            }
        }
    }

    public static void main(String[] args) {
        registers();
        wordsWrap();
        wordsDivide();
        longsOfTwoWords();
        longsWrapAndDivide();
        wordsAndLongs();
        nextToALong();
        longOfASingle();
        wordOfADouble();
        singlesAndDoubles();
        halves();
        rests();
        zero();
        less();
        noOtherRegister();
        finish();
    }
}
