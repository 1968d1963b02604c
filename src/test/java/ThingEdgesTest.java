/**
 * The edges of the things, of the operations 31 to 66 where they do not fail, and of promises 11 to 16:
 * rows with no place and with as many as there may be, the numbers that each kind keeps and cuts,
 * which thing is of which kind, the TURN, and what is asked of a thing or place that is none.
 */
public final class ThingEdgesTest extends LoomTest {
    private static final int[] PLACES = {MIN, -13, -1, 0, 1, 2, 5, 6, 10, 11, 12, 13, 200, MAX};
    private static final int[] NO_REGISTERS = {MIN, -8, -1, 8, 9, MAX};

    /** T1 := a row of that kind with so many places. */
    private static int[][] row(int kind, int places) {
        return new int[][] {s(1, 7, places), s(31, 1, kind, 7)};
    }

    /** "31 Ta := a new row of kind b (0 .. 9) with Wc places": 0 at first, or NOTHING; promises 12 to 14. */
    private static void newRows() {
        for (int kind = 0; kind <= 9; kind++) {
            for (int places = 0; places <= 12; places++) {
                Loom x = ran(with(row(kind, places), s(1, 6, 99), s(38, 6, 1)));
                String what = "a new row of kind " + kind + " with " + places;
                due(what + ": kind", x.kind(1), kind);
                due(what + ": size", x.size(1), places);
                due(what + ": 38", x.word(6), places);
                due(what + ": things made", x.state(5), 1);
                for (int i : PLACES) {
                    boolean there = i >= 0 && i < places;
                    due(what + ": cell " + i, x.cell(1, i), there && kind >= 8 ? -1 : 0);
                    due(what + ": point " + i, x.point(1, i), 0.0);
                }
                for (int k = -1; k <= 3; k++) due(what + ": field " + k, x.field(1, k), 0);
            }
        }
    }

    /** "7 ROOM: 31 more than 12 places", "3 SIZE: places below 0 (31, 32)" */
    private static void rowsThatCannotBe() {
        int[][] before = {s(1, 6, 4), s(33, 1, 12, 6)};
        for (int kind = 0; kind <= 9; kind++) {
            for (int places : new int[] {13, 14, 100, MAX}) failsAndChangesNothing("31: " + places + " places", ROOM, with(before, s(1, 7, places), s(31, 1, kind, 7)));
            for (int places : new int[] {-1, -2, -12, -13, MIN}) failsAndChangesNothing("31: " + places + " places", SIZE, with(before, s(1, 7, places), s(31, 1, kind, 7)));
        }
    }

    private static int gridFailure(int rows, int places) {
        return rows > 6 || places > 6 ? ROOM : rows < 0 || places < 0 ? SIZE : 0;
    }

    /** "32 Ta := a new GRID with Wb places, each with a new row of WORDS with Wc places"; "32 more than 6 of either"; "each ROOM first, then each SIZE" */
    private static void grids() {
        int[] counts = {MIN, -7, -1, 0, 1, 5, 6, 7, 8, 12, 13, MAX};
        for (int rows : counts) {
            for (int places : counts) {
                String what = "a GRID of " + rows + ", " + places;
                int[][] all = {s(33, 1, 12, 0), s(1, 6, rows), s(1, 7, places), s(32, 1, 6, 7)};
                if (gridFailure(rows, places) != 0) {
                    failsAndChangesNothing(what, gridFailure(rows, places), all);
                    continue;
                }
                Loom x = ran(with(all, s(38, 5, 1)));
                due(what + ": kind", x.kind(1), 10);
                due(what + ": size", x.size(1), rows);
                due(what + ": 38", x.word(5), rows);
                due(what + ": things made", x.state(5), 2 + rows);
                for (int i : PLACES) {
                    due(what + ": cell " + i, x.cell(1, i), i >= 0 && i < rows ? places : 0);
                    due(what + ": point " + i, x.point(1, i), 0.0);
                }
            }
        }
        // The rows are new ones, of WORDS, each another, and all 0.
        int[][] all = {s(1, 7, 6), s(32, 1, 7, 7)};
        for (int i = 0; i < 6; i++) all = with(all, s(1, 0, i), s(48, 2 + i, 1, 0));
        Loom x = ran(with(all, s(1, 0, 5), s(53, 7, 7, 0)));
        for (int r = 2; r < 8; r++) {
            due("a GRID's row: kind", x.kind(r), 4);
            due("a GRID's row: size", x.size(r), 6);
            for (int q = 2; q < 8; q++) due("a GRID's rows " + r + ", " + q, x.same(r, q), r == q);
            for (int i = 0; i < 6; i++) due("a GRID's row " + r + " at " + i, x.cell(r, i), r == 7 && i == 5 ? 6 : 0);
        }
    }

    private static final int[][] KEPT = {
        {0, 0, 0}, {0, 1, 1}, {0, 2, 0}, {0, 3, 1}, {0, -1, 1}, {0, -2, 0}, {0, 256, 0}, {0, MIN, 0}, {0, MAX, 1},
        {1, 0, 0}, {1, 126, 126}, {1, 127, 127}, {1, 128, -128}, {1, 129, -127}, {1, -127, -127}, {1, -128, -128}, {1, -129, 127}, {1, 255, -1}, {1, 256, 0}, {1, 257, 1}, {1, -256, 0}, {1, MIN, 0}, {1, MAX, -1},
        {2, 0, 0}, {2, 1, 1}, {2, 255, 255}, {2, 256, 256}, {2, 32767, 32767}, {2, 32768, 32768}, {2, 65534, 65534}, {2, 65535, 65535}, {2, 65536, 0}, {2, 65537, 1}, {2, -1, 65535}, {2, -65535, 1}, {2, -65536, 0}, {2, MIN, 0}, {2, MAX, 65535},
        {3, 0, 0}, {3, 32766, 32766}, {3, 32767, 32767}, {3, 32768, -32768}, {3, 32769, -32767}, {3, -32767, -32767}, {3, -32768, -32768}, {3, -32769, 32767}, {3, 65535, -1}, {3, 65536, 0}, {3, -65536, 0}, {3, 128, 128}, {3, MIN, 0}, {3, MAX, -1},
        {4, 0, 0}, {4, 65536, 65536}, {4, -1, -1}, {4, MIN, MIN}, {4, MIN + 1, MIN + 1}, {4, MAX, MAX}, {4, MAX - 1, MAX - 1},
    };

    /** "FLAGS (0 or 1), 1 BYTES (-128 .. 127), 2 CHARS (0 .. 65535), 3 SHORTS (-32768 .. 32767)"; "49 Wa's lowest bit, 50 its lowest 8, 51 and 52 its lowest 16 bits" */
    private static void numbersThatAreKept() {
        for (int[] k : KEPT) {
            String what = "kind " + k[0] + " of " + k[1];
            Loom x = ran(with(row(k[0], 3), s(1, 2, k[1]), s(1, 3, 1), s(49 + k[0], 2, 1, 3), s(1, 4, 99), s(39 + k[0], 4, 1, 3), s(39 + k[0], 5, 1, 0)));
            due(what + ": cell", x.cell(1, 1), k[2]);
            due(what + ": GET", x.word(4), k[2]);
            due(what + ": Wa is not cut itself", x.word(2), k[1]);
            due(what + ": the place before", x.cell(1, 0), 0);
            due(what + ": the place behind", x.cell(1, 2), 0);
            due(what + ": point", x.point(1, 1), 0.0);
        }
        for (long v : new long[] {Long.MIN_VALUE, Long.MIN_VALUE + 1, -4294967296L, MIN - 1L, -1, 0, 1, MAX + 1L, 4294967296L, Long.MAX_VALUE}) {
            Loom x = ran(with(row(5, 1), s(2, 3, (int) (v >> 32), (int) v), s(54, 3, 1, 0), s(44, 0, 1, 0)));
            due("LONGS of " + v + ": cell", x.cell(1, 0), v);
            due("LONGS of " + v + ": GET", x.wide(0), v);
        }
    }

    /** SINGLES and DOUBLES keep all that F and D registers can have: the smallest, a 0 with a sign, and those beyond all longs. */
    private static void pointsThatAreKept() {
        long[][] parts = {{1, 0}, {-3, 1}, {Long.MAX_VALUE, 0}, {Long.MIN_VALUE, 0}, {16777215, 24}, {1, 149}, {-1, 149}, {-1, 150}, {(1L << 53) - 1, 60}, {-1, 1074}, {1, 1074}, {-1, 1075}};
        for (long[] p : parts) {
            int[][] all = {s(1, 7, 1), s(31, 1, 6, 7), s(31, 2, 7, 7), s(2, 0, (int) (p[0] >> 32), (int) p[0]), s(15, 0, 0), s(16, 0, 0), s(1, 6, (int) p[1]),
                s(28, 6, 12), s(21, 0, 0), s(22, 0, 0), s(5, 6, 6, 7), s(27, 7), s(55, 0, 1, 0), s(56, 0, 2, 0), s(45, 3, 1, 0), s(46, 3, 2, 0)};
            Loom x = ran(all);
            String what = p[0] + " / 2^" + p[1];
            due("SINGLES: point of " + what, x.point(1, 0), x.single(0));
            due("SINGLES: GET of " + what, x.single(3), x.single(0));
            due("DOUBLES: point of " + what, x.point(2, 0), x.real(0));
            due("DOUBLES: GET of " + what, x.real(3), x.real(0));
            due("DOUBLES: as halved", x.real(0), Math.scalb((double) p[0], -(int) p[1]));
            due("SINGLES: no cell", x.cell(1, 0), 0);
            due("DOUBLES: no cell", x.cell(2, 0), 0);
        }
    }

    /** Steps that put the number in W6 (a knot with that TAG, a row with as many places) at place W5 of the row T1. */
    private static int[][] putAtPlace(int kind) {
        switch (kind) {
            case 5: return new int[][] {s(13, 0, 6), s(54, 0, 1, 5)};
            case 6: return new int[][] {s(13, 0, 6), s(15, 0, 0), s(55, 0, 1, 5)};
            case 7: return new int[][] {s(13, 0, 6), s(16, 0, 0), s(56, 0, 1, 5)};
            case 8: case 9: return new int[][] {s(33, 0, 13, 6), s(57, 0, 1, 5)};
            case 10: return new int[][] {s(31, 0, 4, 6), s(58, 0, 1, 5)};
            default: return new int[][] {s(49 + kind, 6, 1, 5)};
        }
    }

    private static double atPlace(Loom x, int kind, int i) {
        return kind == 6 || kind == 7 ? x.point(1, i) : x.cell(1, i);
    }

    /** PUT at each place of a row changes that place and no other, the first and the last, too. */
    private static void eachPlace() {
        for (int kind = 0; kind <= 10; kind++) {
            int most = kind == 10 ? 6 : 12;
            for (int places : new int[] {1, 2, most - 1, most}) {
                for (int place = 0; place < places; place++) {
                    int[][] all = {s(1, 7, places), kind == 10 ? s(32, 1, 7, 4) : s(31, 1, kind, 7), s(1, 6, 1), s(1, 5, place)};
                    Loom x = ran(with(all, putAtPlace(kind)));
                    for (int i = 0; i < places; i++) {
                        double empty = kind == 8 || kind == 9 ? -1 : 0;
                        double full = kind == 8 || kind == 9 ? 13 : 1;
                        due("kind " + kind + " with " + places + ": PUT at " + place + ", at " + i, atPlace(x, kind, i), i == place ? full : empty);
                    }
                }
            }
        }
    }

    /** A row full to its last place keeps each number; "39 Wa, of FLAGS; 40 .." GET them all. */
    private static void fullRows() {
        for (int kind = 1; kind <= 7; kind++) {
            int[][] all = {s(1, 7, 12), s(31, 1, kind, 7), s(1, 4, 1), s(1, 6, 100)};
            for (int i = 0; i < 12; i++) all = with(with(all, putAtPlace(kind)), s(4, 5, 5, 4), s(4, 6, 6, 4));
            Loom x = ran(all);
            for (int i = 0; i < 12; i++) due("a full row of kind " + kind + " at " + i, atPlace(x, kind, i), 100.0 + i);
            for (int i = 0; i < 12; i++) {
                x = ran(with(all, s(1, 5, i), s(39 + kind, 2, 1, 5)));
                double got = kind == 5 ? x.wide(2) : kind == 6 ? x.single(2) : kind == 7 ? x.real(2) : x.word(2);
                due("a full row of kind " + kind + ": GET at " + i, got, 100.0 + i);
            }
        }
    }

    /** "KNOTS: a knot or NOTHING at each place, 9 RINGS: a ring or NOTHING, 10 GRID: a row of WORDS or NOTHING" */
    private static void placesWithThings() {
        for (int rows = 8; rows <= 9; rows++) {
            for (int kind = 11; kind <= 13; kind++) {
                if (rows == 9 && kind == 11) continue;
                String what = "kind " + kind + " in kind " + rows;
                Loom x = ran(with(row(rows, 12), s(1, 2, 11), s(33, 2, kind, 2), s(57, 2, 1, 2), s(57, 2, 1, 0), s(47, 3, 1, 2), s(47, 4, 1, 0), s(33, 5, 13, 2), s(47, 5, 1, 3), s(33, 6, 13, 2), s(1, 3, 10), s(47, 6, 1, 3)));
                due(what + ": at the last place", x.cell(1, 11), kind);
                due(what + ": at the first place", x.cell(1, 0), kind);
                due(what + ": NOTHING between", x.cell(1, 10), -1);
                due(what + ": GET of the last", x.same(3, 2), true);
                due(what + ": GET of the first", x.same(4, 2), true);
                due(what + ": GET of the first again", x.same(5, 2), true);
                due(what + ": GET of NOTHING between", x.kind(6), -1);
                x = ran(with(row(rows, 12), s(1, 2, 11), s(33, 2, kind, 2), s(57, 2, 1, 2), s(57, 7, 1, 2), s(33, 3, 11, 2), s(47, 3, 1, 2)));
                due(what + ": NOTHING put there", x.cell(1, 11), -1);
                due(what + ": GET of NOTHING", x.kind(3), -1);
            }
        }
        for (int places = 0; places <= 12; places++) {
            Loom x = ran(s(1, 7, 6), s(32, 1, 7, 7), s(1, 2, places), s(31, 2, 4, 2), s(1, 3, 5), s(58, 2, 1, 3), s(48, 3, 1, 3), s(58, 0, 1, 0), s(33, 4, 11, 0), s(48, 4, 1, 0));
            due("a row with " + places + " in a GRID: cell", x.cell(1, 5), places);
            due("a row with " + places + " in a GRID: GET", x.same(2, 3), true);
            due("a GRID: NOTHING put there", x.cell(1, 0), -1);
            due("a GRID: GET of NOTHING", x.kind(4), -1);
            due("a GRID: its other rows", x.cell(1, 4), 6);
        }
    }

    /** "One thing may be in many registers, places and NEXTs: it is the same one." */
    private static void oneThingInManyPlaces() {
        Loom x = ran(s(1, 7, 2), s(1, 1, 1), s(31, 1, 8, 7), s(33, 2, 12, 7), s(33, 6, 11, 7), s(57, 2, 1, 0), s(57, 2, 1, 1), s(64, 2, 6), s(64, 2, 2), s(34, 3, 2),
            s(1, 2, 55), s(60, 2, 3), s(2, 0, 1, 1), s(62, 0, 3), s(47, 4, 1, 0), s(47, 5, 1, 1), s(63, 7, 6), s(63, 0, 7));
        for (int r : new int[] {0, 2, 3, 4, 5, 7}) {
            due("one thing: T" + r, x.same(2, r), true);
            due("one thing: its TAG", x.field(r, 0), 55);
            due("one thing: its WEIGHT", x.field(r, 1), 4294967297L);
            due("one thing: its NEXT is itself", x.field(r, 2), 12);
        }
        due("another thing keeps its TAG", x.field(6, 0), 2);
        x = ran(s(1, 7, 2), s(31, 1, 4, 7), s(34, 2, 1), s(31, 3, 4, 7), s(53, 7, 2, 0), s(35, 2));
        due("one row: changed by another register", x.cell(1, 0), 2);
        due("another row is not", x.cell(3, 0), 0);
        due("35: NOTHING", x.kind(2), -1);
        due("35: the thing is still there", x.kind(1), 4);
        due("34: NOTHING, too", ran(s(33, 1, 11, 0), s(34, 1, 2)).kind(1), -1);
    }

    /** Which kinds a thing is of, by the document: "A thing IS of its own kind; a RING and a BOW are a KNOT, too, .." */
    private static boolean is(int kind, int of) {
        return kind == of || of == 11 && (kind == 12 || kind == 13) || of == 12 && kind == 13 || of == 8 && kind == 9
            || of == 16 && kind >= 11 && kind <= 14;
    }

    /** "37 Wa := 1 if Tb is of kind c (0 .. 16), else 0."; "NOTHING is of no kind."; promise 11 */
    private static void kinds() {
        for (int kind = 0; kind <= 15; kind++) {
            int[][] all = {s(1, 7, 2), make(1, kind)};
            Loom x = ran(all);
            due("kind " + kind, x.kind(1), kind);
            for (int r : NO_REGISTERS) due("kind: no register " + r, x.kind(r), -2);
            for (int of = 0; of <= 16; of++) {
                x = ran(with(all, s(1, 2, 9), s(37, 2, 1, of), s(1, 3, 9), s(37, 3, 2, of)));
                due("37: " + kind + " is of kind " + of, x.word(2), is(kind, of) ? 1 : 0);
                due("37: NOTHING is of kind " + of, x.word(3), 0);
            }
        }
        // Each register of T0 .. T7.
        int[][] all = {};
        for (int r = 0; r < 8; r++) all = with(all, s(31, r, r, 0));
        Loom x = ran(all);
        for (int r = 0; r < 8; r++) due("kind of T" + r, x.kind(r), r);
    }

    /** "How many places the row Tr has; -1 if it is none.", "0 where there is nothing such": promises 12, 13 and 14 */
    private static void noSuchPlace() {
        for (int kind = -1; kind <= 15; kind++) {
            int[][] all = kind < 0 ? new int[][] {s(1, 7, 2)} : new int[][] {s(1, 7, 2), make(1, kind)};
            Loom x = ran(all);
            due("size of kind " + kind, x.size(1), kind >= 0 && kind <= 10 ? 2 : -1);
            for (int i : new int[] {MIN, -1, 2, 3, MAX}) {
                due("cell " + i + " of kind " + kind, x.cell(1, i), 0);
                due("point " + i + " of kind " + kind, x.point(1, i), 0.0);
            }
            if (kind > 10) due("cell of what is no row", x.cell(1, 0), 0);
            if (kind > 10) due("point of what is no row", x.point(1, 0), 0.0);
            for (int r : NO_REGISTERS) {
                due("size: no register", x.size(r), -1);
                due("cell: no register", x.cell(r, 0), 0);
                due("point: no register", x.point(r, 0), 0.0);
            }
        }
        // The first and the last register.
        Loom x = ran(s(1, 7, 2), s(31, 0, 4, 7), s(31, 7, 7, 7), s(53, 7, 0, 0), s(2, 0, 0, 3), s(16, 0, 0), s(56, 0, 7, 0));
        due("size of T0", x.size(0), 2);
        due("size of T7", x.size(7), 2);
        due("cell of T0", x.cell(0, 0), 2);
        due("point of T7", x.point(7, 0), 3.0);
    }

    /** Promise 15: "what = 0 a knot's or slip's TAG, a fault's NUMBER; 1 a knot's WEIGHT; 2 the kind of a knot's NEXT, of a fault's CAUSE (-1 NOTHING); 0 for all else." */
    private static void fields() {
        int[][] before = {s(1, 7, 5), s(2, 0, -3, 7), s(33, 6, 12, 7)};
        for (int kind = 11; kind <= 13; kind++) {
            Loom x = ran(with(before, s(33, 1, kind, 7)));
            due("field 0 of a new " + kind, x.field(1, 0), 5);
            due("field 1 of a new " + kind, x.field(1, 1), 0);
            due("field 2 of a new " + kind, x.field(1, 2), -1);
            for (int next = 11; next <= 13; next++) {
                x = ran(with(before, s(33, 1, kind, 7), s(33, 2, next, 7), s(62, 0, 1), s(64, 2, 1)));
                due("field 1 of " + kind, x.field(1, 1), -3L * 4294967296L + 7);
                due("field 2 of " + kind, x.field(1, 2), next);
                for (int what : new int[] {MIN, -1, 3, 4, MAX}) due("field " + what + " of " + kind, x.field(1, what), 0);
            }
        }
        Loom x = ran(with(before, s(33, 1, 14, 7), s(67, 2, 7, 0), s(67, 3, 7, 2)));
        int[][] due = {{1, 0, 5}, {1, 1, 0}, {1, 2, 0}, {2, 0, 13}, {2, 1, 0}, {2, 2, -1}, {3, 0, 13}, {3, 1, 0}, {3, 2, 15}, {5, 0, 0}, {5, 1, 0}, {5, 2, 0}};
        for (int[] d : due) due("field " + d[1] + " of T" + d[0], x.field(d[0], d[1]), d[2]);
        for (int what : new int[] {MIN, -1, 3, MAX}) for (int r = 0; r < 8; r++) due("field " + what + " of T" + r, x.field(r, what), 0);
        for (int r : NO_REGISTERS) for (int what = 0; what < 3; what++) due("field: no register", x.field(r, what), 0);
        for (int kind = 0; kind <= 10; kind++) {
            x = ran(s(1, 7, 5), make(1, kind));
            for (int what = 0; what < 3; what++) due("field " + what + " of a row", x.field(1, what), 0);
        }
        x = ran(s(1, 0, MIN), s(33, 0, 14, 0), s(1, 1, MAX), s(33, 7, 11, 1));
        due("field: the least TAG, in T0", x.field(0, 0), MIN);
        due("field: the greatest TAG, in T7", x.field(7, 0), MAX);
    }

    /** Promise 16, "(false for NOTHING, or where there is none such)", and 36, "or both NOTHING" */
    private static void same() {
        int[][] all = {s(33, 0, 11, 0), s(34, 7, 0), s(33, 1, 11, 0)};
        Loom x = ran(all);
        int[] thing = {1, 2, 0, 0, 0, 0, 0, 1};
        for (int r = 0; r < 8; r++) {
            for (int q = 0; q < 8; q++) due("same " + r + " " + q, x.same(r, q), thing[r] != 0 && thing[r] == thing[q]);
            for (int q : NO_REGISTERS) {
                due("same: no second register", x.same(r, q), false);
                due("same: no first register", x.same(q, r), false);
            }
        }
        for (int q : NO_REGISTERS) due("same: no registers", x.same(q, q), false);
        for (int r = 0; r < 8; r++) {
            for (int q = 0; q < 8; q++) due("36: " + r + " " + q, ran(with(all, s(1, 3, 9), s(36, 3, r, q))).word(3), thing[r] == thing[q] ? 1 : 0);
        }
    }

    /** The parts of a knot: 59 to 64, with the least and the greatest numbers, for each kind of knot. */
    private static void knots() {
        for (int kind = 11; kind <= 13; kind++) {
            for (int tag : new int[] {MIN, -1, 0, 1, MAX}) {
                Loom x = ran(s(1, 0, tag), s(33, 1, kind, 0), s(59, 1, 1), s(33, 2, kind, 7), s(60, 0, 2), s(59, 2, 2));
                due("33: its TAG", x.field(1, 0), tag);
                due("59", x.word(1), tag);
                due("60", x.field(2, 0), tag);
                due("59 behind 60", x.word(2), tag);
            }
            for (long weight : new long[] {Long.MIN_VALUE, -1, 0, 4294967296L, Long.MAX_VALUE}) {
                Loom x = ran(s(2, 0, (int) (weight >> 32), (int) weight), s(33, 1, kind, 0), s(62, 0, 1), s(61, 3, 1));
                due("62", x.field(1, 1), weight);
                due("61", x.wide(3), weight);
            }
            for (int next = 11; next <= 13; next++) {
                Loom x = ran(s(33, 1, kind, 0), s(33, 2, next, 0), s(34, 3, 2), s(63, 3, 1), s(64, 2, 1), s(63, 4, 1), s(64, 7, 1), s(34, 5, 2), s(63, 5, 1));
                due("63: NOTHING at first", x.kind(3), -1);
                due("64: its NEXT", x.same(4, 2), true);
                due("64: NOTHING again", x.field(1, 2), -1);
                due("63: NOTHING again", x.kind(5), -1);
            }
        }
    }

    /** "The TURN of one of the OPS by a word x: .. (Words wrap.)", by 65 and 66 */
    private static void turns() {
        int[] words = {MIN, MIN + 1, -65537, -2, -1, 0, 1, 2, 3, 46341, 65536, 1073741823, 1073741824, MAX - 1, MAX};
        for (int tag : words) {
            for (int by : words) {
                int[] due = {by + tag, by + tag, 2 * (by + tag) + 1, tag * by};
                for (int kind = 11; kind <= 14; kind++) {
                    int[][] all = {s(1, 0, tag), s(1, 1, by), s(33, 1, kind, 0)};
                    due("66: TURN of " + kind + ", " + tag + " by " + by, ran(with(all, s(66, 7, 1, 1))).word(7), due[kind - 11]);
                    if (kind < 14) due("65: TURN of " + kind + ", " + tag + " by " + by, ran(with(all, s(65, 1, 1, 1))).word(1), due[kind - 11]);
                }
            }
        }
        due("TURN of a BOW: 2 * (5 + 7) + 1", ran(s(1, 0, 7), s(1, 1, 5), s(33, 1, 13, 0), s(66, 2, 1, 1)).word(2), 25);
        due("TURN of a BOW that wraps twice", ran(s(1, 0, MAX), s(1, 1, MAX), s(33, 1, 13, 0), s(66, 2, 1, 1)).word(2), -3);
        Loom x = ran(s(1, 0, 3), s(33, 1, 13, 0), s(66, 2, 1, 0));
        due("TURN leaves the TAG", x.field(1, 0), 3);
        due("TURN by the TAG as it is now", ran(s(1, 0, 3), s(33, 1, 11, 0), s(1, 1, 4), s(60, 1, 1), s(66, 2, 1, 1)).word(2), 8);
    }

    public static void main(String[] args) {
        newRows();
        rowsThatCannotBe();
        grids();
        numbersThatAreKept();
        pointsThatAreKept();
        eachPlace();
        fullRows();
        placesWithThings();
        oneThingInManyPlaces();
        kinds();
        noSuchPlace();
        fields();
        same();
        knots();
        turns();
        finish();
    }
}
