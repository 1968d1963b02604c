/** Each promise of the document by hand: ordinary inputs, the edges that it names, wrong inputs. */
public final class PromiseTest extends LoomTest {
    private static void aNewObject() {
        Loom x = new Loom();
        for (int r = -1; r < 9; r++) {
            due("new: word", x.word(r), 0);
            due("new: wide", x.wide(r), 0);
            due("new: single", x.single(r), 0.0);
            due("new: real", x.real(r), 0.0);
            due("new: kind", x.kind(r), r < 0 || r > 7 ? -2 : -1);
            due("new: size", x.size(r), -1);
            due("new: cell", x.cell(r, 0), 0);
            due("new: point", x.point(r, 0), 0.0);
            due("new: field", x.field(r, 0), 0);
            due("new: same", x.same(r, r), false);
            due("new: told", x.told(r), 0);
        }
        for (int what = 0; what < 11; what++) due("new: state " + what, x.state(what), what == 9 ? -1 : 0);
        due("new: step", x.step(1), -1);
        due("new: step, n is wrong, too", x.step(-1), -1);
        due("new: clear", x.clear(), 0);
    }

    private static void put() {
        Loom x = new Loom();
        due("put: op -1", x.put(-1, 0, 0, 0), -1);
        due("put: op 74", x.put(74, 0, 0, 0), -1);
        due("put: HALT looks at nothing", x.put(0, -1, MAX, MIN), 1);
        due("put: W8", x.put(1, 8, 0, 0), -1);
        due("put: L4", x.put(2, 4, 0, 0), -1);
        due("put: W7 := MIN", x.put(1, 7, MIN, -1), 2);
        due("put: place 199", x.put(27, 199, -1, -1), 3);
        due("put: place 200", x.put(27, 200, 0, 0), -1);
        due("put: place -1", x.put(29, -1, 0, 0), -1);
        due("put: place b", x.put(28, 0, 200, 0), -1);
        due("put: W of 28", x.put(28, 8, 0, 0), -1);
        due("put: a row of kind 10", x.put(31, 0, 10, 0), -1);
        due("put: a thing of kind 10", x.put(33, 0, 10, 0), -1);
        due("put: a thing of kind 15", x.put(33, 0, 15, 0), -1);
        due("put: kind 17", x.put(37, 0, 0, 17), -1);
        due("put: kind 16", x.put(37, 0, 0, 16), 4);
        due("put: T8", x.put(36, 0, 0, 8), -1);
        due("put: F4 of singles", x.put(45, 4, 0, 0), -1);
        due("put: steps", x.state(0), 4);

        x = loom(s(1, 3, 9), s(0));
        x.start();
        x.step(1);
        due("put: wrong", x.put(74, 0, 0, 0), -1);
        due("put: a wrong one leaves the run", x.state(10), 1);
        due("put: right", x.put(0, 0, 0, 0), 3);
        due("put: no run any more", x.state(10), 0);
        due("put: no step without a run", x.step(1), -1);
        due("put: registers stay", x.word(3), 9);
        due("put: steps done of the latest run", x.state(3), 1);

        x = new Loom();
        for (int k = 1; k <= 150; k++) due("put: many", x.put(1, 0, k, 0), k);
        x.start();
        due("put: 151st", x.put(1, 0, 0, 0), -2);
        due("put: 151st and wrong", x.put(1, 8, 0, 0), -1);
        due("put: a 151st leaves the run", x.state(10), 1);
        due("put: steps are 150", x.state(0), 150);
        due("put: step", x.step(100), 0);
        due("put: last", x.step(50), 1);
        due("put: the last step was done", x.word(0), 150);
        due("put: behind the last", x.state(2), 150);
    }

    private static void handler() {
        Loom x = loom(s(0));
        due("handler: from", x.handler(-1, 0, 0, 0), -1);
        due("handler: from 200", x.handler(200, 0, 0, 0), -1);
        due("handler: to", x.handler(0, 200, 0, 0), -1);
        due("handler: to -1", x.handler(0, -1, 0, 0), -1);
        due("handler: at", x.handler(0, 0, 0, 200), -1);
        due("handler: at -1", x.handler(0, 0, 0, -1), -1);
        x.start();
        due("handler: a wrong one leaves the run", x.state(10), x.handler(0, 0, 0, 200) + 2);
        due("handler: first", x.handler(199, 199, MIN, 199), 1);
        due("handler: no run any more", x.state(10), 0);
        for (int k = 2; k <= 16; k++) due("handler: many", x.handler(9, 3, k, 0), k);
        x.start();
        due("handler: 17th", x.handler(0, 0, 0, 0), -2);
        due("handler: 17th and wrong", x.handler(0, 0, 0, 200), -1);
        due("handler: a 17th leaves the run", x.state(10), 1);
        due("handler: there are 16", x.state(1), 16);

        // from and to - 1 are both in, to is not; bit 6 is ZERO.
        for (int from = 0; from < 4; from++) {
            for (int to = 0; to < 4; to++) {
                for (int bit = 5; bit < 8; bit++) {
                    x = loom(s(1, 1, 1), s(7, 0, 1, 2), s(0), s(1, 5, 1));
                    x.handler(from, to, 1 << bit, 3);
                    x.start();
                    boolean handled = from <= 1 && to >= 2 && bit == 6;
                    due("handler " + from + " " + to + " " + bit, x.step(100), handled ? 1 : 2);
                    due("handler " + from + " " + to + " " + bit + ": its place", x.word(5), handled ? 1 : 0);
                    due("handler " + from + " " + to + " " + bit + ": where", x.state(2), handled ? 4 : 1);
                }
            }
        }
        x = loom(s(7, 0, 0, 0), s(73, 0), s(0), s(1, 0, 3), s(73, 0), s(0));
        x.handler(0, 1, 1 << 5, 1);
        x.handler(0, 1, 1 << 6, 3);
        x.handler(0, 1, -1, 1);
        x.start();
        due("handler: the first told that names it", x.step(100), 1);
        due("handler: the second", x.told(0), 3);
        x = loom(s(7, 0, 0, 0));
        for (int k = 1; k <= 16; k++) x.handler(0, 1, ~(1 << 6), 0);
        x.start();
        due("handler: none of 16 names it", x.step(100), 2);
        x.clear();
        x.put(7, 0, 0, 0);
        x.handler(5, 6, -1, 0);
        x.start();
        due("handler: those before clear are gone", x.step(100), 2);
        x = loom(s(7, 0, 0, 0));
        x.handler(0, 1, -1, 0);
        x.clear();
        x.put(7, 0, 0, 0);
        x.start();
        due("handler: the only one before clear is gone", x.step(100), 2);
        x = loom(s(7, 0, 0, 0));
        x.handler(0, 1, -1, 199);
        x.start();
        due("handler: at a place without a step", x.step(1), 1);
        due("handler: where", x.state(2), 199);
        due("handler: a handled failure counts", x.state(7), 1);
    }

    private static void handlersThroughCalls() {
        // 0 calls 3, 3 calls 6, 6 fails.
        int[][] steps = {s(29, 3), s(0), s(0), s(29, 6), s(0), s(0), s(7, 0, 0, 0), s(0), s(72, 1), s(0)};
        Loom x = loom(steps);
        x.start();
        due("calls: stopped", x.step(100), 2);
        due("calls: all are given up", x.state(4), 0);
        due("calls: where it stopped", x.state(2), 6);
        due("calls: the step that failed", x.state(9), 6);

        x = loom(steps);
        x.handler(0, 1, -1, 8);
        x.handler(3, 4, -1, 8);
        x.start();
        due("calls: the inner call's handler", x.step(3), 0);
        due("calls: on there", x.state(2), 8);
        due("calls: one has not returned", x.state(4), 1);
        due("calls: the number", x.step(1), 0);
        due("calls: ZERO", x.word(1), 6);

        x = loom(steps);
        x.handler(0, 1, 1 << 6, 8);
        x.handler(3, 4, 1 << 5, 8);
        x.start();
        due("calls: the outer call's handler", x.step(3), 0);
        due("calls: none is left", x.state(4), 0);
        due("calls: the failure's place is the step's", x.state(9), 6);
        due("calls: ended", x.step(100), 1);

        x = loom(steps);
        x.handler(6, 7, -1, 8);
        x.start();
        x.step(3);
        due("calls: the step's own handler", x.state(4), 2);
    }

    private static void clear() {
        Loom x = loom(s(1, 2, 5), s(33, 1, 11, 2), s(73, 2), s(0));
        x.handler(0, 1, 1, 1);
        x.start();
        x.step(3);
        due("clear", x.clear(), 4);
        due("clear: steps", x.state(0), 0);
        due("clear: handlers", x.state(1), 0);
        due("clear: no run", x.state(10), 0);
        due("clear: step", x.step(0), -1);
        due("clear: words stay", x.word(2), 5);
        due("clear: things stay", x.field(1, 0), 5);
        due("clear: again", x.clear(), 0);
        due("clear: put", x.put(0, 0, 0, 0), 1);
    }

    private static void start() {
        Loom x = new Loom();
        due("start: no step", x.start(), false);
        due("start: ended at once", x.state(10), 2);
        due("start: step", x.step(5), 1);
        due("start: step, n is wrong", x.step(101), -2);
        due("start: no steps done", x.state(3), 0);

        x = loom(s(1, 0, 3), s(2, 0, 0, 3), s(15, 0, 0), s(16, 0, 0), s(31, 0, 8, 0), s(33, 1, 12, 0),
            s(57, 1, 0, 7), s(73, 0), s(29, 9), s(7, 0, 0, 1), s(0));
        x.start();
        due("start: stopped", x.step(100), 2);
        due("start: knots", x.cell(0, 0), 12);
        due("start: again", x.start(), true);
        int[] begun = {11, 0, 0, 0, 0, 0, 0, 0, 0, -1, 1};
        for (int what = 0; what < begun.length; what++) due("start: state " + what, x.state(what), begun[what]);
        due("start: word", x.word(0), 0);
        due("start: wide", x.wide(0), 0);
        due("start: single", x.single(0), 0.0);
        due("start: real", x.real(0), 0.0);
        due("start: thing", x.kind(0), -1);
        due("start: nothing told", x.told(0), 0);
        x.step(5);
        due("start: things are new", x.cell(0, 0), -1);

        // What was a full row or a knot with all parts before is empty in the next run.
        x = loom(s(28, 0, 1), s(1, 0, 2), s(31, 0, 5, 0), s(2, 0, 7, 7), s(54, 0, 0, 1), s(33, 1, 13, 0),
            s(62, 0, 1), s(64, 1, 1), s(31, 2, 7, 0), s(16, 0, 0), s(56, 0, 2, 1), s(0));
        for (int again = 0; again < 3; again++) {
            x.start();
            x.step(3);
            due("start: a new row", x.cell(0, 0), 0);
            x.step(3);
            due("start: a new knot's weight", x.field(1, 1), 0);
            due("start: a new knot's next", x.field(1, 2), -1);
            x.step(3);
            due("start: a new row of doubles", x.point(2, 0), 0.0);
            x.step(100);
            due("start: a full row", x.cell(0, 0), 7 * 4294967296L + 7);
            due("start: things made", x.state(5), 3);
        }

        x = loom(s(68, 0), s(69, 1), s(72, 2), s(67, 3, 2, 1), s(28, 2, 1), s(27, 1));
        x.handler(0, 1, -1, 1);
        for (int again = 0; again < 2; again++) {
            x.start();
            x.step(3);
            due("start: MISSING was handled", x.word(2), 1);
            due("start: nothing was thrown", x.kind(1), -1);
        }
    }

    private static void step() {
        Loom x = loom(s(1, 0, 1), s(1, 0, 2), s(1, 0, 3));
        x.start();
        due("step: none", x.step(0), 0);
        due("step: none done", x.state(3), 0);
        due("step: n -1", x.step(-1), -2);
        due("step: n 101", x.step(101), -2);
        due("step: n MIN", x.step(MIN), -2);
        due("step: one", x.step(1), 0);
        due("step: one done", x.word(0), 1);
        due("step: to the end", x.step(2), 1);
        due("step: the end", x.word(0), 3);
        due("step: where", x.state(2), 3);
        due("step: behind the end", x.step(100), 1);
        due("step: n is wrong behind the end", x.step(-1), -2);
        due("step: three done", x.state(3), 3);

        x = loom(s(27, 0));
        x.start();
        due("step: 100", x.step(100), 0);
        due("step: 100 done", x.state(3), 100);

        x = loom(s(1, 0, 1), s(0), s(1, 0, 2));
        x.start();
        due("step: HALT", x.step(100), 1);
        due("step: HALT's place", x.state(2), 1);
        due("step: HALT is done, too", x.state(3), 2);
        due("step: nothing behind it", x.word(0), 1);

        x = loom(s(7, 0, 0, 0));
        x.start();
        due("step: stopped", x.step(1), 2);
        due("step: still", x.step(0), 2);
        due("step: nothing more is done", x.state(3), 1);
    }

    private static void jumpsAndCalls() {
        Loom x = ran(s(27, 2), s(1, 0, 1), s(28, 1, 4), s(1, 0, 2), s(1, 2, 3), s(28, 2, 7), s(0), s(1, 0, 4));
        due("jumps: over the steps", x.word(0), 0);
        due("jumps: not if it is not 0", x.state(2), 6);
        x = ran(s(27, 199));
        due("jumps: beyond the steps", x.state(2), 199);
        x = ran(s(29, 3), s(1, 0, 1), s(0), s(1, 1, 2), s(30));
        due("calls: back behind it", x.word(0), 1);
        due("calls: there and back", x.word(1), 2);
        due("calls: all have returned", x.state(4), 0);
        x = ran(s(1, 0, 1), s(30), s(1, 0, 2));
        due("calls: RETURN of none", x.state(2), 1);
        due("calls: has ended", x.state(10), 2);
        due("calls: no more", x.word(0), 1);
        x = ran(s(29, 2), s(0), s(29, 4), s(0), s(0));
        due("calls: not returned", x.state(4), 2);
        due("calls: HALT in a call", x.state(2), 4);

        x = loom(s(29, 0));
        x.start();
        due("calls: 12", x.step(12), 0);
        due("calls: 12 open", x.state(4), 12);
        due("calls: the 13th", x.step(1), 2);
        due("calls: ROOM", x.state(8), 7);
        x = loom(s(29, 0), s(1, 0, 1), s(30));
        x.handler(0, 1, 1 << 7, 1);
        x.start();
        due("calls: ROOM is handled", x.step(13), 0);
        due("calls: 12 are open", x.state(4), 12);
        // Each RETURN goes on behind a CALL, at 1: two steps for each, and the last RETURN.
        due("calls: all return", x.step(100), 1);
        due("calls: none is open", x.state(4), 0);
        due("calls: steps", x.state(3), 13 + 2 * 13);
    }

    private static void words() {
        Loom x = ran(s(1, 0, MAX), s(1, 1, 1), s(4, 2, 0, 1), s(1, 3, MIN), s(5, 4, 3, 1), s(6, 5, 0, 0),
            s(3, 6, 3), s(25, 7, 3, 0));
        due("word: + wraps", x.word(2), MIN);
        due("word: - wraps", x.word(4), MAX);
        due("word: * wraps", x.word(5), 1);
        due("word: copy", x.word(6), MIN);
        due("word: <", x.word(7), 1);
        due("word: W-1", x.word(-1), 0);
        due("word: W8", x.word(8), 0);
        due("word: MAX", x.word(MAX), 0);
        x = ran(s(1, 0, -7), s(1, 1, 2), s(7, 2, 0, 1), s(8, 3, 0, 1), s(1, 4, MIN), s(1, 5, -1), s(7, 6, 4, 5),
            s(8, 7, 4, 5));
        due("word: / goes towards 0", x.word(2), -3);
        due("word: what / leaves", x.word(3), -1);
        due("word: MIN / -1 wraps", x.word(6), MIN);
        due("word: and leaves", x.word(7), 0);
        x = ran(s(25, 7, 0, 0), s(1, 1, 5), s(25, 6, 1, 0));
        due("word: not < itself", x.word(7), 0);
        due("word: not < less", x.word(6), 0);
        fails("7 by 0", 6, s(1, 1, 5), s(7, 1, 1, 0));
        due("7 by 0 changes nothing", fails("8 by 0", 6, s(1, 1, 5), s(8, 1, 1, 0)).word(1), 5);
    }

    private static void longs() {
        Loom x = ran(s(2, 0, 1, -1), s(2, 1, -1, 0), s(9, 2, 0, 1), s(10, 3, 0, 0), s(14, 0, 0), s(13, 1, 0));
        due("wide: c without sign", x.wide(0), 8589934591L);
        due("wide: +", x.wide(2), 4294967295L);
        due("wide: * wraps", x.wide(3), 8589934591L * 8589934591L);
        due("wide: its lowest bits", x.word(0), -1);
        due("wide: of a word", x.wide(1), -1);
        due("wide: L-1", x.wide(-1), 0);
        due("wide: L4", x.wide(4), 0);
        x = ran(s(2, 0, MIN, 0), s(2, 1, -1, -1), s(11, 2, 0, 1), s(12, 3, 0, 1));
        due("wide: MIN / -1 wraps", x.wide(2), Long.MIN_VALUE);
        due("wide: and leaves", x.wide(3), 0);
        x = ran(s(2, 0, -1, -17), s(2, 1, 0, 5), s(11, 2, 0, 1), s(12, 3, 0, 1));
        due("wide: / goes towards 0", x.wide(2), -3);
        due("wide: what / leaves", x.wide(3), -2);
        fails("11 by 0", 6, s(11, 0, 0, 0));
        due("12 by 0", fails("12 by 0", 6, s(2, 1, 0, 3), s(12, 1, 1, 0)).wide(1), 3);
    }

    private static void singles() {
        // 2^24 + 1 is halfway between two singles, 2^24 + 3 as well: the even one each time.
        Loom x = ran(s(2, 0, 0, 16777217), s(2, 1, 0, 16777219), s(15, 0, 0), s(15, 1, 1), s(21, 2, 1),
            s(17, 2, 2), s(19, 0, 2));
        due("single: halfway down", x.single(0), 16777216.0);
        due("single: halfway up", x.single(1), 16777220.0);
        due("single: half", x.single(2), 8388610.0);
        due("single: as a long", x.wide(2), 8388610);
        due("single: as a double", x.real(0), 8388610.0);
        due("single: F-1", x.single(-1), 0.0);
        due("single: F4", x.single(4), 0.0);
        x = ran(s(2, 0, MAX, -1), s(15, 0, 0), s(17, 1, 0), s(2, 2, MIN, 0), s(15, 1, 2), s(17, 2, 1));
        due("single: of the largest long", x.single(0), 9223372036854775808.0);
        due("single: beyond all longs", x.wide(1), Long.MAX_VALUE);
        due("single: the least long", x.wide(2), Long.MIN_VALUE);
        // -7.5 and 2: -1.5; -8 and 2: a 0 with the sign of -8.
        x = ran(s(2, 0, -1, -15), s(15, 0, 0), s(21, 0, 0), s(2, 1, 0, 2), s(15, 1, 1), s(23, 2, 0, 1),
            s(17, 2, 0), s(2, 3, -1, -8), s(15, 3, 3), s(23, 3, 3, 1));
        due("single: what is left", x.single(2), -1.5);
        due("single: towards 0", x.wide(2), -7);
        due("single: nothing left, with its sign", x.single(3), -0.0);
        due("23 by 0", fails("23 by 0", 6, s(2, 0, 0, 3), s(15, 0, 0), s(23, 0, 0, 1)).single(0), 3.0);

        // One halved down to the smallest single, and once more to 0, which is a divisor of none.
        x = loom(s(2, 0, 0, 1), s(15, 0, 0), s(21, 0, 0), s(27, 2));
        x.start();
        for (int k = 0; k < 3; k++) x.step(100);
        due("single: the smallest", x.single(0), (double) Float.MIN_VALUE);
        x.step(2);
        due("single: half of it, even", x.single(0), 0.0);
        // 3 * the smallest, halved: of two as near the one whose last bit is 0.
        x = loom(s(2, 0, 0, 3), s(15, 0, 0), s(21, 0, 0), s(27, 2));
        x.start();
        for (int k = 0; k < 3; k++) x.step(100);
        due("single: three of the smallest", x.single(0), 3 * (double) Float.MIN_VALUE);
        x.step(2);
        due("single: half of three", x.single(0), 2 * (double) Float.MIN_VALUE);
    }

    private static void doubles() {
        Loom x = ran(s(2, 0, 2097152, 1), s(2, 1, 2097152, 3), s(16, 0, 0), s(16, 1, 1), s(22, 2, 1), s(20, 0, 1),
            s(26, 0, 0, 1), s(26, 1, 1, 0), s(26, 2, 0, 0));
        due("real: halfway down", x.real(0), 9007199254740992.0);
        due("real: halfway up", x.real(1), 9007199254740996.0);
        due("real: half", x.real(2), 4503599627370498.0);
        due("real: the single next to it", x.single(0), 9007199254740992.0);
        due("real: <", x.word(0), 1);
        due("real: not <", x.word(1), 0);
        due("real: not < itself", x.word(2), 0);
        due("real: D-1", x.real(-1), 0.0);
        due("real: D4", x.real(4), 0.0);
        x = ran(s(2, 0, 0, MIN), s(16, 0, 0), s(18, 0, 0), s(2, 1, -1, MAX), s(16, 1, 1), s(18, 1, 1),
            s(2, 2, -1, -3), s(16, 2, 2), s(22, 2, 2), s(18, 2, 2));
        due("real: beyond all words", x.word(0), MAX);
        due("real: below all words", x.word(1), MIN);
        due("real: towards 0", x.word(2), -1);
        x = ran(s(2, 0, MAX, -1), s(16, 0, 0), s(2, 1, 0, 10), s(16, 1, 1), s(24, 2, 0, 1), s(2, 2, -1, -10),
            s(16, 3, 2), s(24, 1, 1, 3), s(24, 3, 3, 0));
        due("real: 2^63 by 10 leaves", x.real(2), 8.0);
        due("real: 10 by -10 leaves", x.real(1), 0.0);
        due("real: more than there is", x.real(3), -10.0);
        due("24 by 0", fails("24 by 0", 6, s(2, 0, 0, 3), s(16, 0, 0), s(24, 0, 0, 1)).real(0), 3.0);

        // -1 halved until it is a 0 with a sign: that is ZERO as a divisor, too.
        x = loom(s(2, 0, -1, -1), s(16, 0, 0), s(22, 0, 0), s(27, 2), s(0), s(22, 0, 0), s(24, 1, 1, 0));
        x.handler(6, 7, 1 << 6, 4);
        x.start();
        x.step(2);
        for (int k = 0; k < 21; k++) x.step(100);
        x.step(48);
        due("real: the smallest", x.real(0), -Double.MIN_VALUE);
        due("real: more", x.step(2), 0);
        due("real: half of it", x.real(0), -0.0);
    }

    private static final int[][] RESTS = {{0, 1}, {1, 3}, {3, 1}, {7, 2}, {1000003, 17}, {-1000003, 17}, {MAX, -3}, {MIN, 7}};

    private static void rests() {
        for (int[] pair : RESTS) {
            for (int halves = 0; halves < 40; halves += 13) {
                Loom x = loom(s(1, 0, pair[0]), s(13, 0, 0), s(1, 1, pair[1]), s(13, 1, 1), s(16, 0, 0), s(16, 1, 1),
                    s(1, 2, halves), s(1, 3, 1), s(28, 2, 12), s(22, 1, 1), s(5, 2, 2, 3), s(27, 8),
                    s(20, 0, 0), s(20, 1, 1), s(23, 2, 0, 1), s(24, 2, 0, 1), s(0));
                x.start();
                while (x.step(100) == 0) { }
                due("rest of " + x.real(0) + " by " + x.real(1), x.real(2), x.real(0) % x.real(1));
                due("rest of singles " + x.single(0) + " by " + x.single(1), x.single(2),
                    (double) ((float) x.single(0) % (float) x.single(1)));
            }
        }
    }

    private static void kinds() {
        // Which kinds a thing of each kind is of, as bits.
        int[] of = new int[16];
        for (int k = 0; k < 16; k++) of[k] = 1 << k;
        of[9] |= 1 << 8;
        of[11] |= 1 << 16;
        of[12] |= 1 << 11 | 1 << 16;
        of[13] |= 1 << 11 | 1 << 12 | 1 << 16;
        of[14] |= 1 << 16;
        for (int kind = 0; kind < 16; kind++) {
            for (int wanted = 0; wanted < 17; wanted++) {
                Loom x = ran(make(3, kind), s(1, 0, 9), s(37, 0, 3, wanted), s(1, 1, 9), s(37, 1, 4, wanted));
                due("kind " + kind + " is of kind " + wanted, x.word(0), of[kind] >> wanted & 1);
                due("NOTHING is of no kind", x.word(1), 0);
                due("kind", x.kind(3), kind);
                due("kind of NOTHING", x.kind(4), -1);
                due("kind: T-1", x.kind(-1), -2);
                due("kind: T8", x.kind(8), -2);
            }
        }
    }

    private static void sizes() {
        for (int kind = 0; kind < 16; kind++) {
            Loom x = loom(s(1, 7, 4), make(3, kind), s(38, 0, 3));
            x.start();
            boolean row = kind <= 10;
            due("size: step " + kind, x.step(100), row ? 1 : 2);
            due("size: CAST", x.state(8), row ? 0 : 4);
            due("size: kind " + kind, x.size(3), row ? 4 : -1);
            due("size: 38", x.word(0), row ? 4 : 0);
            due("size: of NOTHING", x.size(0), -1);
            due("size: T8", x.size(8), -1);
            due("size: T-1", x.size(-1), -1);
        }
        due("size: 12 places", ran(s(1, 0, 12), s(31, 0, 7, 0)).size(0), 12);
        due("size: 0 places", ran(s(31, 0, 9, 0)).size(0), 0);
        Loom x = fails("31: 13 places", 7, s(33, 1, 11, 0), s(1, 0, 13), s(31, 1, 4, 0));
        due("31: nothing is made", x.state(5), 1);
        due("31: nothing is changed", x.kind(1), 11);
        fails("31: -1 places", 3, s(1, 0, -1), s(31, 1, 4, 0));
        fails("31: MIN places", 3, s(1, 0, MIN), s(31, 1, 4, 0));
        fails("31: MAX places", 7, s(1, 0, MAX), s(31, 1, 4, 0));
        int[][] grids = {{6, 6, 0}, {0, 0, 0}, {0, 6, 0}, {6, 0, 0}, {7, 0, 7}, {0, 7, 7}, {-1, 7, 7}, {7, -1, 7}, {-1, 6, 3},
            {6, -1, 3}, {0, -1, 3}, {-1, -1, 3}, {MIN, MAX, 7}};
        for (int[] g : grids) {
            x = loom(s(1, 0, g[0]), s(1, 1, g[1]), s(32, 2, 0, 1));
            x.start();
            x.step(100);
            due("32: " + g[0] + " " + g[1], x.state(8), g[2]);
            due("32: things made", x.state(5), g[2] == 0 ? 1 + g[0] : 0);
            due("32: places", x.size(2), g[2] == 0 ? g[0] : -1);
            due("32: the row there", x.cell(2, 0), g[2] == 0 && g[0] > 0 ? g[1] : 0);
        }
    }

    private static void room() {
        int[][] full = new int[61][];
        full[0] = s(1, 0, 3);
        for (int k = 1; k < 61; k++) full[k] = s(33, k % 8, 11 + k % 4, 0);
        due("room: 60 things", ran(full).state(5), 60);
        fails("room: a 61st by 33", 7, with(full, s(33, 0, 11, 0)));
        fails("room: a 61st by 31", 7, with(full, s(31, 0, 0, 0)));
        fails("room: a 61st by 67", 7, with(full, s(35, 0), s(67, 0, 0, 0)));
        fails("room: CAST ahead of it", 4, with(full, s(67, 0, 0, 0)));
        fails("room: SIZE ahead of it", 3, with(full, s(1, 1, -1), s(31, 0, 0, 1)));
        fails("room: a grid alone", 7, with(full, s(32, 0, 1, 1)));
        due("room: no more is made", fails("room: again", 7, with(full, s(33, 0, 11, 0))).state(5), 60);
        int[][] some = java.util.Arrays.copyOf(full, 57);
        Loom x = ran(with(some, s(32, 0, 0, 0)));
        due("room: a grid of 3 rows is 4 things", x.state(5), 60);
        x = fails("room: a grid of 4 rows is 5 things", 7, with(some, s(1, 0, 4), s(32, 1, 0, 0)));
        due("room: no part of it is made", x.state(5), 56);
        due("room: T1 stays", x.kind(1), 12);
        // Again and again in new runs: each has room for 60.
        x = loom(full);
        for (int k = 0; k < 100; k++) {
            x.start();
            due("room: in each run", x.step(61), 1);
        }
    }

    private static void cells() {
        int[] put = {0, 0, -1, 2, 300, -129, 70000, -1, 40000, -40000, MIN, MAX};
        int[] got = {0, 0, 1, 0, 44, 127, 4464, 65535, -25536, 25536, MIN, MAX};
        for (int k = 2; k < 12; k++) {
            int kind = k / 2 - 1;
            Loom x = ran(s(1, 7, 3), make(1, kind), s(1, 0, put[k]), s(1, 1, 2), s(49 + kind, 0, 1, 1), s(39 + kind, 5, 1, 1),
                s(1, 6, 9), s(39 + kind, 6, 1, 2));
            due("cell of kind " + kind, x.cell(1, 2), got[k]);
            due("GET of kind " + kind, x.word(5), got[k]);
            due("0 at first", x.word(6), 0);
            due("cell: place -1", x.cell(1, -1), 0);
            due("cell: place 3", x.cell(1, 3), 0);
            due("cell: no point", x.point(1, 2), 0.0);
            due("cell: NOTHING", x.cell(2, 0), 0);
            due("cell: T8", x.cell(8, 0), 0);
            due("cell: T-1", x.cell(-1, 0), 0);
        }
        Loom x = ran(s(1, 7, 12), make(1, 5), s(2, 0, MIN, 1), s(1, 1, 11), s(54, 0, 1, 1), s(44, 2, 1, 1));
        due("cell of LONGS", x.cell(1, 11), Long.MIN_VALUE + 1);
        due("GET of LONGS", x.wide(2), Long.MIN_VALUE + 1);
        for (int kind = 8; kind < 10; kind++) {
            x = ran(s(1, 7, 3), make(1, kind), make(2, 13), s(1, 1, 1), s(57, 2, 1, 1), s(47, 3, 1, 1), s(57, 2, 1, 0),
                s(57, 4, 1, 0), s(35, 5), s(47, 2, 1, 2));
            due("cell: a bow in " + kind, x.cell(1, 1), 13);
            due("cell: NOTHING again", x.cell(1, 0), -1);
            due("cell: NOTHING at first", x.cell(1, 2), -1);
            due("cell: beyond", x.cell(1, 3), 0);
            due("47: the same thing", x.kind(3), 13);
            due("47: NOTHING", x.kind(2), -1);
        }
        x = ran(s(1, 0, 3), s(1, 1, 2), s(32, 1, 0, 1), s(31, 2, 4, 0), s(58, 2, 1, 1), s(58, 7, 1, 4), s(48, 3, 1, 1), s(48, 4, 1, 4),
            s(1, 5, 77), s(53, 5, 3, 1), s(43, 6, 2, 1));
        due("cell of a GRID: a row that was put there", x.cell(1, 2), 3);
        due("cell of a GRID: NOTHING", x.cell(1, 0), -1);
        due("cell of a GRID: its own row", x.cell(1, 1), 2);
        due("48: the same row", x.same(2, 3), true);
        due("48: NOTHING", x.kind(4), -1);
        due("48: one thing in two places", x.word(6), 77);
        due("cell of a KNOT", ran(s(33, 0, 11, 0)).cell(0, 0), 0);
    }

    private static void points() {
        Loom x = ran(s(1, 7, 3), make(1, 6), make(2, 7), s(2, 0, -1, -3), s(15, 0, 0), s(21, 0, 0), s(16, 0, 0), s(22, 0, 0),
            s(22, 0, 0), s(1, 1, 2), s(55, 0, 1, 1), s(56, 0, 2, 1), s(45, 3, 1, 1), s(46, 3, 2, 1));
        due("point of SINGLES", x.point(1, 2), -1.5);
        due("point of DOUBLES", x.point(2, 2), -0.75);
        due("45", x.single(3), -1.5);
        due("46", x.real(3), -0.75);
        due("point: 0 at first", x.point(1, 0), 0.0);
        due("point: place -1", x.point(2, -1), 0.0);
        due("point: place 3", x.point(2, 3), 0.0);
        due("point: no cell", x.cell(1, 2), 0);
        due("point: no cell of DOUBLES", x.cell(2, 2), 0);
        due("point: NOTHING", x.point(0, 0), 0.0);
        due("point: T8", x.point(8, 0), 0.0);
        due("point: T-1", x.point(-1, 0), 0.0);
        x = ran(s(1, 7, 3), make(1, 4), s(53, 7, 1, 0));
        due("point: of WORDS", x.point(1, 0), 0.0);
    }

    private static void fields() {
        Loom x = ran(s(1, 0, -5), s(33, 1, 11, 0), s(33, 2, 12, 0), s(33, 3, 13, 0), s(33, 4, 14, 0), s(67, 5, 0, 7), s(67, 6, 0, 5),
            s(2, 0, 7, 0), s(62, 0, 3), s(64, 2, 3), s(1, 2, 44), s(60, 2, 1), s(59, 3, 1), s(61, 1, 3), s(63, 7, 3), s(70, 4, 6));
        due("field: a knot's TAG", x.field(1, 0), 44);
        due("field: a ring's TAG", x.field(2, 0), -5);
        due("field: a bow's TAG", x.field(3, 0), -5);
        due("field: a slip's TAG", x.field(4, 0), -5);
        due("field: a fault's NUMBER", x.field(5, 0), 8 + (-5 & 15));
        due("field: a bow's WEIGHT", x.field(3, 1), 7L << 32);
        due("field: a slip's WEIGHT", x.field(4, 1), 0);
        due("field: a fault's WEIGHT", x.field(5, 1), 0);
        due("field: a bow's NEXT", x.field(3, 2), 12);
        due("field: no NEXT", x.field(1, 2), -1);
        due("field: a slip's NEXT", x.field(4, 2), 0);
        due("field: no CAUSE", x.field(5, 2), -1);
        due("field: a CAUSE", x.field(6, 2), 15);
        for (int what : new int[] {-1, 3, MIN, MAX}) due("field: " + what, x.field(3, what), 0);
        for (int r : new int[] {-1, 0, 8}) for (int what = 0; what < 3; what++) due("field: T" + r, x.field(r, what), 0);
        due("59", x.word(3), 44);
        due("61", x.wide(1), 7L << 32);
        due("63", x.same(7, 2), true);
        due("70", x.word(4), 19);
        x = ran(s(1, 0, 3), s(31, 0, 4, 0));
        for (int what = 0; what < 3; what++) due("field: of a row", x.field(0, what), 0);
        x = ran(s(33, 0, 11, 0), s(64, 0, 0), s(64, 1, 0), s(63, 0, 0));
        due("64: NOTHING", x.kind(0), -1);
    }

    private static void turns() {
        int[] kinds = {11, 12, 13, 14};
        long[] due = {12, 12, 25, 35};
        for (int k = 0; k < 4; k++) {
            Loom x = loom(s(1, 0, 7), s(1, 1, 5), s(33, 0, kinds[k], 0), s(66, 2, 0, 1), s(65, 3, 0, 1));
            x.start();
            due("TURN: step " + kinds[k], x.step(100), kinds[k] == 14 ? 2 : 1);
            due("66: the TURN of " + kinds[k], x.word(2), due[k]);
            due("65: the TURN of " + kinds[k], x.word(3), kinds[k] == 14 ? 0 : due[k]);
        }
        Loom x = ran(s(1, 0, MAX), s(33, 0, 11, 0), s(33, 1, 13, 0), s(33, 2, 14, 0), s(66, 1, 0, 0), s(66, 2, 1, 0), s(66, 3, 2, 0));
        due("TURN of a KNOT wraps", x.word(1), -2);
        due("TURN of a BOW wraps", x.word(2), -3);
        due("TURN of a SLIP wraps", x.word(3), 1);
    }

    private static void same() {
        Loom x = ran(s(33, 0, 11, 0), s(34, 1, 0), s(33, 2, 11, 0), s(36, 0, 0, 1), s(36, 1, 0, 2), s(36, 2, 5, 6), s(36, 3, 0, 5));
        due("same: copied", x.same(0, 1), true);
        due("same: itself", x.same(2, 2), true);
        due("same: another one", x.same(0, 2), false);
        due("same: NOTHING", x.same(5, 6), false);
        due("same: T8", x.same(8, 8), false);
        due("same: T-1", x.same(0, -1), false);
        due("same: T-1 first", x.same(-1, 0), false);
        due("36: copied", x.word(0), 1);
        due("36: another one", x.word(1), 0);
        due("36: both NOTHING", x.word(2), 1);
        due("36: one NOTHING", x.word(3), 0);
    }

    private static void told() {
        Loom x = loom(s(1, 1, 1), s(4, 0, 0, 1), s(73, 0), s(27, 1));
        x.start();
        for (int k = 0; k < 7; k++) x.step(100);
        due("told: first", x.told(0), 1);
        due("told: 200th", x.told(199), 200);
        due("told: beyond", x.told(200), 0);
        due("told: all of them", x.state(6), 233);
        due("told: -1", x.told(-1), 0);
        x.put(0, 0, 0, 0);
        due("told: stays behind put", x.told(1), 2);
        x.start();
        due("told: not in a new run", x.told(0), 0);
        x.step(3);
        due("told: one", x.told(0), 1);
        due("told: no second", x.told(1), 0);
        due("told: how many", x.state(6), 1);
    }

    private static void faults() {
        for (int n = -1; n < 17; n++) {
            Loom x = loom(s(1, 0, n), s(67, 1, 0, 0), s(67, 2, 0, 1), s(68, 2), s(0), s(69, 3), s(72, 4), s(70, 5, 3), s(71, 6, 3), s(71, 7, 6));
            x.handler(0, 4, 1 << (8 + (n & 15)), 5);
            x.start();
            due("faults: handled", x.step(100), 1);
            due("69: the fault", x.same(2, 3), true);
            due("71: its CAUSE", x.same(1, 6), true);
            due("71: no CAUSE", x.kind(7), -1);
            due("70: its NUMBER", x.word(5), 8 + (n & 15));
            due("72: the failure", x.word(4), 8 + (n & 15));
            due("faults: state 8", x.state(8), 8 + (n & 15));
        }
        // A failure that is none of 68 takes the fault away again.
        Loom x = loom(s(67, 1, 0, 0), s(68, 1), s(69, 2), s(7, 0, 0, 0), s(69, 3), s(72, 1));
        x.handler(1, 2, -1, 2);
        x.handler(3, 4, -1, 4);
        x.start();
        due("69: step", x.step(100), 1);
        due("69: the fault before", x.kind(2), 15);
        due("69: none by 68", x.kind(3), -1);
        due("72: ZERO", x.word(1), 6);
        x = ran(s(33, 1, 11, 0), s(69, 1), s(1, 1, 5), s(72, 1));
        due("69: before a failure", x.kind(1), -1);
        due("72: before a failure", x.word(1), 0);
        // A CAST or MISSING of 68 throws no fault.
        x = loom(s(33, 1, 11, 0), s(68, 1), s(69, 1), s(72, 1));
        x.handler(1, 2, 1 << 4, 2);
        x.start();
        due("68: CAST is handled", x.step(100), 1);
        due("68: no fault", x.kind(1), -1);
        due("68: CAST", x.word(1), 4);
        fails("67: CAST", 4, s(33, 1, 14, 0), s(67, 0, 0, 1));
        fails("70: CAST", 4, s(33, 1, 13, 0), s(70, 0, 1));
        fails("71: CAST", 4, s(33, 1, 13, 0), s(71, 0, 1));
    }

    private static void failuresInTheirOrder() {
        int[][] base = {s(1, 7, 3), s(1, 1, -1), s(31, 1, 8, 7), s(31, 2, 9, 7), s(33, 3, 11, 7), s(33, 4, 14, 7), s(31, 5, 4, 7), s(32, 6, 7, 7)};
        for (int op = 39; op <= 58; op++) {
            fails("MISSING of " + op, 1, with(base, s(op, 0, 0, 1)));
            fails("CAST ahead of INDEX of " + op, 4, with(base, s(op, 0, 4, 1)));
            int row = (op - 39) % 10;
            for (int kind = 0; kind < 16; kind++) {
                boolean fits = row == 9 ? kind == 10 : row == 8 ? kind == 8 || kind == 9 : kind == row;
                fails("INDEX or CAST of " + op + " with " + kind, fits ? 2 : 4, with(base, make(1, kind), s(op, 0, 1, 7)));
                fails("below 0: INDEX or CAST of " + op + " with " + kind, fits ? 2 : 4, with(base, make(1, kind), s(op, 0, 1, 1)));
            }
        }
        fails("57: CAST of Ta ahead of MISSING", 4, with(base, s(57, 4, 0, 1)));
        fails("57: CAST of Ta ahead of INDEX", 4, with(base, s(57, 4, 1, 1)));
        fails("57: INDEX ahead of STORE", 2, with(base, s(57, 3, 2, 1)));
        fails("57: STORE", 5, with(base, s(57, 3, 2, 0)));
        due("57: a failed one changes nothing", fails("57: STORE", 5, with(base, s(57, 3, 2, 0))).cell(2, 0), -1);
        fails("57: a slip", 4, with(base, s(57, 4, 2, 0)));
        fails("58: CAST of Ta ahead of MISSING", 4, with(base, s(58, 3, 0, 1)));
        fails("58: CAST of Ta ahead of INDEX", 4, with(base, s(58, 6, 6, 1)));
        fails("58: INDEX", 2, with(base, s(58, 5, 6, 1)));
        fails("64: CAST of Ta ahead of MISSING", 4, with(base, s(64, 4, 0)));
        fails("64: MISSING", 1, with(base, s(64, 3, 0)));
        for (int op = 59; op <= 66; op++) {
            fails("MISSING of " + op, 1, with(base, s(op, 0, 0, 0)));
            fails("CAST of " + op, 4, with(base, s(op, 0, 5, 0)));
            if (op != 66) fails("CAST of " + op + " with a slip", 4, with(base, s(op, 0, 4, 0)));
        }
        fails("66: CAST of a fault", 4, with(base, s(67, 1, 0, 0), s(66, 0, 1, 0)));
        fails("38: MISSING", 1, with(base, s(38, 0, 0)));
        fails("68: MISSING", 1, with(base, s(68, 0)));
        fails("68: CAST", 4, with(base, s(68, 3)));
        fails("70: MISSING", 1, with(base, s(70, 0, 0)));
        fails("71: MISSING", 1, with(base, s(71, 0, 0)));
    }

    private static void state() {
        Loom x = loom(s(29, 2), s(0), s(33, 0, 11, 0), s(73, 0), s(7, 0, 0, 0), s(73, 0));
        x.handler(4, 5, 1 << 6, 5);
        x.start();
        x.step(4);
        int[] due = {6, 1, 5, 4, 1, 1, 1, 1, 6, 4, 1};
        for (int what = 0; what < 11; what++) due("state " + what, x.state(what), due[what]);
        due("state -1", x.state(-1), -1);
        due("state 11", x.state(11), -1);
        due("state MIN", x.state(MIN), -1);
        due("state: step", x.step(100), 1);
        due("state: behind the last step", x.state(2), 6);
        due("state: ended", x.state(10), 2);
        x.handler(0, 0, 0, 0);
        int[] after = {6, 2, 6, 5, 1, 1, 2, 1, 6, 4, 0};
        for (int what = 0; what < 11; what++) due("state: of the latest run " + what, x.state(what), after[what]);
        x.clear();
        due("state: of the latest run, cleared", x.state(3), 5);
    }

    public static void main(String[] args) {
        aNewObject();
        put();
        handler();
        handlersThroughCalls();
        clear();
        start();
        step();
        jumpsAndCalls();
        words();
        longs();
        singles();
        doubles();
        rests();
        kinds();
        sizes();
        room();
        cells();
        points();
        fields();
        turns();
        same();
        told();
        faults();
        failuresInTheirOrder();
        state();
        finish();
    }
}
