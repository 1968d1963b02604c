import java.util.ArrayList;
import java.util.List;
import java.util.Random;

/**
 * Random programs, run by FaultLoom and by a loom of Java's own arrays, classes, casts and
 * exceptions (the machine may throw there: this is a test). All that can be seen must agree.
 */
public final class PlainJavaTest extends LoomTest {
    private static final int PROGRAMS = 30000;
    private static final int ODD_PROGRAMS = 600;

    interface Ops {
        int turn(int x);
    }

    static class Knot implements Ops {
        int tag;
        long weight;
        Knot next;

        public int turn(int x) {
            return x + tag;
        }
    }

    static class Ring extends Knot { }

    static class Bow extends Ring {
        @Override
        public int turn(int x) {
            return 2 * super.turn(x) + 1;
        }
    }

    static class Slip implements Ops {
        int tag;

        public int turn(int x) {
            return tag * x;
        }
    }

    static class Fault extends RuntimeException {
        private static final long serialVersionUID = 1L;
        final int number;
        final transient Fault before;

        Fault(int number, Fault before) {
            super(null, null, false, false);
            this.number = number;
            this.before = before;
        }
    }

    static class NoRoom extends RuntimeException {
        private static final long serialVersionUID = 1L;
    }

    static int kindOf(Object t) {
        if (t == null) return -1;
        Class<?>[] kinds = {boolean[].class, byte[].class, char[].class, short[].class, int[].class,
            long[].class, float[].class, double[].class, Knot[].class, Ring[].class, int[][].class,
            Knot.class, Ring.class, Bow.class, Slip.class, Fault.class};
        for (int k = 0; k < kinds.length; k++) {
            if (t.getClass() == kinds[k]) return k;
        }
        throw new AssertionError(t);
    }

    static final class Plain {
        final List<int[]> steps = new ArrayList<>();
        final List<int[]> handlers = new ArrayList<>();
        int[] w = new int[8];
        long[] l = new long[4];
        float[] f = new float[4];
        double[] d = new double[4];
        Object[] t = new Object[8];
        final List<Integer> told = new ArrayList<>();
        final List<Integer> calls = new ArrayList<>();
        int status;
        int place;
        int next;
        int done;
        int made;
        int failures;
        int failure;
        int failurePlace = -1;
        int handled;
        Fault handledFault;
        final long[] worked;
        final long[] failed;

        Plain(long[] worked, long[] failed) {
            this.worked = worked;
            this.failed = failed;
        }

        boolean start() {
            w = new int[8];
            l = new long[4];
            f = new float[4];
            d = new double[4];
            t = new Object[8];
            told.clear();
            calls.clear();
            done = made = failures = failure = handled = 0;
            failurePlace = -1;
            handledFault = null;
            goOn(0);
            return !steps.isEmpty();
        }

        void goOn(int to) {
            place = to;
            status = to < steps.size() ? 1 : 2;
        }

        int step(int n) {
            if (status == 0) return -1;
            if (n < 0 || n > 100) return -2;
            for (int k = 0; k < n && status == 1; k++) one();
            return status - 1;
        }

        void one() {
            int[] s = steps.get(place);
            next = place + 1;
            done++;
            int number = 0;
            Fault thrown = null;
            try {
                exec(s[0], s[1], s[2], s[3]);
                worked[s[0]]++;
            } catch (NullPointerException e) {
                number = 1;
            } catch (IndexOutOfBoundsException e) {
                number = 2;
            } catch (NegativeArraySizeException e) {
                number = 3;
            } catch (ClassCastException e) {
                number = 4;
            } catch (ArrayStoreException e) {
                number = 5;
            } catch (ArithmeticException e) {
                number = 6;
            } catch (NoRoom e) {
                number = 7;
            } catch (Fault e) {
                number = e.number;
                thrown = e;
            }
            if (number == 0) {
                if (status == 1) goOn(next);
                return;
            }
            failed[number]++;
            failures++;
            failure = number;
            failurePlace = place;
            int from = place;
            while (true) {
                for (int[] h : handlers) {
                    if (h[0] <= from && from <= h[1] - 1 && (h[2] & (1 << number)) != 0) {
                        handled = number;
                        handledFault = thrown;
                        goOn(h[3]);
                        return;
                    }
                }
                if (calls.isEmpty()) {
                    status = 3;
                    return;
                }
                from = calls.remove(calls.size() - 1);
            }
        }

        void room(int more) {
            if (made + more > 60) throw new NoRoom();
        }

        Object row(int kind, int n) {
            if (n > 12) throw new NoRoom();
            if (n >= 0) room(1);
            Object made = kind == 0 ? new boolean[n] : kind == 1 ? new byte[n] : kind == 2 ? new char[n]
                : kind == 3 ? new short[n] : kind == 4 ? new int[n] : kind == 5 ? new long[n]
                : kind == 6 ? new float[n] : kind == 7 ? new double[n] : kind == 8 ? new Knot[n] : new Ring[n];
            this.made++;
            return made;
        }

        Object grid(int n, int m) {
            if (n > 6 || m > 6) throw new NoRoom();
            if (n >= 0 && m >= 0) room(1 + n);
            Object made = new int[n][m];
            this.made += 1 + n;
            return made;
        }

        Object single(int kind, int tag) {
            room(1);
            made++;
            if (kind == 14) {
                Slip s = new Slip();
                s.tag = tag;
                return s;
            }
            Knot k = kind == 11 ? new Knot() : kind == 12 ? new Ring() : new Bow();
            k.tag = tag;
            return k;
        }

        boolean is(Object x, int kind) {
            switch (kind) {
                case 8: return x instanceof Knot[];
                case 11: return x instanceof Knot;
                case 12: return x instanceof Ring;
                case 16: return x instanceof Ops;
                default: return kindOf(x) == kind;
            }
        }

        static int lengthOf(Object x) {
            if (x == null) throw new NullPointerException();
            if (kindOf(x) > 10) throw new ClassCastException();
            return java.lang.reflect.Array.getLength(x);
        }

        void exec(int op, int a, int b, int c) {
            switch (op) {
                case 0: status = 2; break;
                case 1: w[a] = b; break;
                case 2: l[a] = b * 4294967296L + Integer.toUnsignedLong(c); break;
                case 3: w[a] = w[b]; break;
                case 4: w[a] = w[b] + w[c]; break;
                case 5: w[a] = w[b] - w[c]; break;
                case 6: w[a] = w[b] * w[c]; break;
                case 7: w[a] = w[b] / w[c]; break;
                case 8: w[a] = w[b] % w[c]; break;
                case 9: l[a] = l[b] + l[c]; break;
                case 10: l[a] = l[b] * l[c]; break;
                case 11: l[a] = l[b] / l[c]; break;
                case 12: l[a] = l[b] % l[c]; break;
                case 13: l[a] = w[b]; break;
                case 14: w[a] = (int) l[b]; break;
                case 15: f[a] = l[b]; break;
                case 16: d[a] = l[b]; break;
                case 17: l[a] = (long) f[b]; break;
                case 18: w[a] = (int) d[b]; break;
                case 19: d[a] = f[b]; break;
                case 20: f[a] = (float) d[b]; break;
                case 21: f[a] = f[b] / 2; break;
                case 22: d[a] = d[b] / 2; break;
                case 23: if (f[c] == 0) throw new ArithmeticException(); f[a] = f[b] % f[c]; break;
                case 24: if (d[c] == 0) throw new ArithmeticException(); d[a] = d[b] % d[c]; break;
                case 25: w[a] = w[b] < w[c] ? 1 : 0; break;
                case 26: w[a] = d[b] < d[c] ? 1 : 0; break;
                case 27: next = a; break;
                case 28: if (w[a] == 0) next = b; break;
                case 29: if (calls.size() == 12) throw new NoRoom(); calls.add(place); next = a; break;
                case 30:
                    if (calls.isEmpty()) status = 2;
                    else next = calls.remove(calls.size() - 1) + 1;
                    break;
                case 31: t[a] = row(b, w[c]); break;
                case 32: t[a] = grid(w[b], w[c]); break;
                case 33: t[a] = single(b, w[c]); break;
                case 34: t[a] = t[b]; break;
                case 35: t[a] = null; break;
                case 36: w[a] = t[b] == t[c] ? 1 : 0; break;
                case 37: w[a] = is(t[b], c) ? 1 : 0; break;
                case 38: w[a] = lengthOf(t[b]); break;
                case 39: w[a] = ((boolean[]) t[b])[w[c]] ? 1 : 0; break;
                case 40: w[a] = ((byte[]) t[b])[w[c]]; break;
                case 41: w[a] = ((char[]) t[b])[w[c]]; break;
                case 42: w[a] = ((short[]) t[b])[w[c]]; break;
                case 43: w[a] = ((int[]) t[b])[w[c]]; break;
                case 44: l[a] = ((long[]) t[b])[w[c]]; break;
                case 45: f[a] = ((float[]) t[b])[w[c]]; break;
                case 46: d[a] = ((double[]) t[b])[w[c]]; break;
                case 47: t[a] = ((Knot[]) t[b])[w[c]]; break;
                case 48: t[a] = ((int[][]) t[b])[w[c]]; break;
                case 49: ((boolean[]) t[b])[w[c]] = (w[a] & 1) != 0; break;
                case 50: ((byte[]) t[b])[w[c]] = (byte) w[a]; break;
                case 51: ((char[]) t[b])[w[c]] = (char) w[a]; break;
                case 52: ((short[]) t[b])[w[c]] = (short) w[a]; break;
                case 53: ((int[]) t[b])[w[c]] = w[a]; break;
                case 54: ((long[]) t[b])[w[c]] = l[a]; break;
                case 55: ((float[]) t[b])[w[c]] = f[a]; break;
                case 56: ((double[]) t[b])[w[c]] = d[a]; break;
                case 57: ((Knot[]) t[b])[w[c]] = (Knot) t[a]; break;
                case 58: ((int[][]) t[b])[w[c]] = (int[]) t[a]; break;
                case 59: w[a] = ((Knot) t[b]).tag; break;
                case 60: ((Knot) t[b]).tag = w[a]; break;
                case 61: l[a] = ((Knot) t[b]).weight; break;
                case 62: ((Knot) t[b]).weight = l[a]; break;
                case 63: t[a] = ((Knot) t[b]).next; break;
                case 64: ((Knot) t[b]).next = (Knot) t[a]; break;
                case 65: w[a] = ((Knot) t[b]).turn(w[c]); break;
                case 66: w[a] = ((Ops) t[b]).turn(w[c]); break;
                case 67: {
                    Fault cause = (Fault) t[c];
                    room(1);
                    made++;
                    t[a] = new Fault(8 + (w[b] & 15), cause);
                    break;
                }
                case 68: throw (Fault) t[a];
                case 69: t[a] = handledFault; break;
                case 70: w[a] = ((Fault) t[b]).number; break;
                case 71: t[a] = ((Fault) t[b]).before; break;
                case 72: w[a] = handled; break;
                case 73: told.add(w[a]); break;
                default: throw new AssertionError();
            }
        }

        int state(int what) {
            int[] all = {steps.size(), handlers.size(), place, done, calls.size(), made, told.size(),
                failures, failure, failurePlace, status};
            return what < 0 || what >= all.length ? -1 : all[what];
        }

        int told(int i) {
            return i < 0 || i >= told.size() || i >= 200 ? 0 : told.get(i);
        }

        int size(Object x) {
            return kindOf(x) < 0 || kindOf(x) > 10 ? -1 : java.lang.reflect.Array.getLength(x);
        }

        long cell(Object x, int i) {
            if (i < 0 || i >= size(x)) return 0;
            Object at = java.lang.reflect.Array.get(x, i);
            switch (kindOf(x)) {
                case 0: return (Boolean) at ? 1 : 0;
                case 2: return (Character) at;
                case 1: case 3: case 4: case 5: return ((Number) at).longValue();
                case 8: case 9: return kindOf(at);
                case 10: return size(at);
                default: return 0;
            }
        }

        double point(Object x, int i) {
            if (x instanceof float[] && i >= 0 && i < ((float[]) x).length) return ((float[]) x)[i];
            if (x instanceof double[] && i >= 0 && i < ((double[]) x).length) return ((double[]) x)[i];
            return 0;
        }

        long field(Object x, int what) {
            if (x instanceof Knot) {
                Knot k = (Knot) x;
                return what == 0 ? k.tag : what == 1 ? k.weight : what == 2 ? kindOf(k.next) : 0;
            }
            if (x instanceof Slip) return what == 0 ? ((Slip) x).tag : 0;
            if (x instanceof Fault) return what == 0 ? ((Fault) x).number : what == 2 ? kindOf(((Fault) x).before) : 0;
            return 0;
        }
    }

    static void compareNumbers(String run, Loom x, Plain p) {
        for (int r = 0; r < 4; r++) {
            due(run + "single " + r, x.single(r), (double) p.f[r]);
            due(run + "real " + r, x.real(r), p.d[r]);
        }
    }

    static void compareThing(String run, Loom x, Plain p, int r) {
        due(run + "kind " + r, x.kind(r), kindOf(p.t[r]));
        due(run + "size " + r, x.size(r), p.size(p.t[r]));
        for (int i = -1; i <= p.size(p.t[r]); i++) {
            due(run + "cell " + r + " " + i, x.cell(r, i), p.cell(p.t[r], i));
            due(run + "point " + r + " " + i, x.point(r, i), p.point(p.t[r], i));
        }
        for (int k = 0; k < 3; k++) due(run + "field " + r + " " + k, x.field(r, k), p.field(p.t[r], k));
        for (int q = r; q < 8; q++) due(run + "same " + r + " " + q, x.same(r, q), p.t[r] != null && p.t[r] == p.t[q]);
    }

    static void compare(String run, Loom x, Plain p) {
        compareNumbers(run, x, p);
        for (int r = 0; r < 4; r++) due(run + "wide " + r, x.wide(r), p.l[r]);
        for (int r = 0; r < 8; r++) {
            due(run + "word " + r, x.word(r), p.w[r]);
            compareThing(run, x, p, r);
        }
        int last = p.told.size() - 1;
        for (int i : new int[] {-1, 0, 1, 2, last - 1, last, last + 1, 199, 200}) due(run + "told " + i, x.told(i), p.told(i));
        for (int k = -1; k < 12; k++) due(run + "state " + k, x.state(k), p.state(k));
    }

    static final int[] NUMBERS = {-1, 0, 1, 2, 3, 4, 5, 6, 7, 12, 13, -2147483648, 2147483647, 65535, 128, -129};

    static int number(Random z) {
        return z.nextInt(6) == 0 ? z.nextInt() : z.nextInt(3) == 0 ? NUMBERS[z.nextInt(NUMBERS.length)] : z.nextInt(4);
    }

    // What a, b, c name, by the document's list: written a second time here on purpose.
    static String shape(int op) {
        if (op == 0 || op == 30) return "...";
        if (op == 1 || op == 72 || op == 73) return "W..";
        if (op == 2) return "L..";
        if (op == 3) return "WW.";
        if (op <= 8 || op == 25) return "WWW";
        if (op <= 12) return "LLL";
        if (op <= 20) return new String[] {"LW.", "WL.", "FL.", "DL.", "LF.", "WD.", "DF.", "FD."}[op - 13];
        if (op <= 24) return new String[] {"FF.", "DD.", "FFF", "DDD"}[op - 21];
        if (op <= 29) return new String[] {"WDD", "P..", "WP.", "P.."}[op - 26];
        if (op <= 38) return new String[] {"TRW", "TWW", "TNW", "TT.", "T..", "WTT", "WTK", "WT."}[op - 31];
        if (op <= 58) return "WWWWWLFDTT".charAt((op - 39) % 10) + "TW";
        if (op <= 66) return new String[] {"WT.", "WT.", "LT.", "LT.", "TT.", "TT.", "WTW", "WTW"}[op - 59];
        return new String[] {"TWT", "T..", "T..", "WT.", "TT."}[op - 67];
    }

    static int low(char s) {
        return s == 'N' ? 11 : 0;
    }

    static int high(char s) {
        return s == 'W' || s == 'T' ? 7 : s == 'P' ? 199 : s == 'R' ? 9 : s == 'N' ? 14 : s == 'K' ? 16 : 3;
    }

    static int operand(Random z, char s, int span) {
        if (s == '.') return number(z);
        if (s == 'P') return z.nextInt(span);
        return low(s) + z.nextInt(high(s) - low(s) + 1);
    }

    /** A register that is meant to hold a thing of that kind, if there is one. */
    static int meant(Random z, int[] kinds, int from, int to) {
        int start = z.nextInt(8);
        for (int k = 0; k < 8; k++) {
            int r = (start + k) % 8;
            if (kinds[r] >= from && kinds[r] <= to) return r;
        }
        return start;
    }

    /** Turns random operands into ones that mostly work together: small W0 .. W3, things as meant. */
    static int[] tame(Random z, int[] kinds, int op, int a, int b, int c) {
        if (z.nextInt(6) == 0) return new int[] {op, a, b, c};
        String s = shape(op);
        // W0 .. W3 are for places and sizes: other results go to W4 .. W7.
        if (s.charAt(0) == 'W' && op != 28) a = 4 + z.nextInt(4);
        if (op == 1 && z.nextInt(3) == 0) return new int[] {1, z.nextInt(4), z.nextInt(5), c};
        if (op >= 39 && op <= 58) {
            int row = (op - 39) % 10;
            b = row == 9 ? meant(z, kinds, 10, 10) : row == 8 ? meant(z, kinds, 8, 9) : meant(z, kinds, row, row);
            c = z.nextInt(4);
            if (op == 47) a = meant(z, kinds, 11, 13);
            if (op == 48 || op == 58) a = meant(z, kinds, 4, 4);
            if (op == 57) a = meant(z, kinds, 11, 13);
        } else if (op >= 59 && op <= 66) {
            b = meant(z, kinds, 11, op == 66 ? 14 : 13);
            if (op == 63 || op == 64) a = meant(z, kinds, 11, 13);
        } else if (op >= 67 && op <= 71) {
            if (op == 67 || op == 68 || op == 69) a = meant(z, kinds, 15, 15);
            if (op == 70 || op == 71) b = meant(z, kinds, 15, 15);
            if (op == 71) a = b;
            if (op == 67) c = meant(z, kinds, 15, 15);
        } else if (op >= 31 && op <= 35) {
            return make(z, kinds, z.nextInt(8));
        }
        return new int[] {op, a, b, c};
    }

    static int[] make(Random z, int[] kinds, int r) {
        int kind = kinds[r];
        if (kind <= 9) return new int[] {31, r, kind, z.nextInt(4)};
        if (kind == 10) return new int[] {32, r, z.nextInt(4), z.nextInt(4)};
        if (kind <= 14) return new int[] {33, r, kind, z.nextInt(8)};
        return new int[] {67, r, 4 + z.nextInt(4), r};
    }

    static void add(Loom x, Plain p, int op, int a, int b, int c) {
        p.steps.add(new int[] {op, a, b, c});
        p.status = 0;
        due("put " + op + " " + a + " " + b + " " + c, x.put(op, a, b, c), p.steps.size());
    }

    static void program(Random z, int number, long[] worked, long[] failed) {
        Loom x = new Loom();
        Plain p = new Plain(worked, failed);
        int[] kinds = new int[8];
        for (int r = 0; r < 8; r++) kinds[r] = z.nextInt(4) == 0 ? 15 : z.nextInt(16);
        if (z.nextInt(3) == 0) {
            kinds[2] = 10;
            kinds[5] = 4;
        }
        for (int k = 0; k < 8; k++) add(x, p, 1, k, k < 4 ? z.nextInt(9) - 1 : z.nextBoolean() ? z.nextInt(16) : number(z), 0);
        for (int k = 0; k < 4; k++) add(x, p, 2, k, z.nextInt(3) == 0 ? number(z) : 0, number(z));
        for (int r = 0; r < 8; r++) {
            int[] m = make(z, kinds, r);
            add(x, p, m[0], m[1], m[2], m[3]);
        }
        int span = 30 + z.nextInt(60);
        int rest = 20;
        for (int k = rest; k < span; k++) {
            int op = z.nextInt(74);
            if (op == 0 && z.nextBoolean()) op = 1;
            String s = shape(op);
            int[] m = tame(z, kinds, op, operand(z, s.charAt(0), span + 2), operand(z, s.charAt(1), span + 2),
                operand(z, s.charAt(2), span + 2));
            add(x, p, m[0], m[1], m[2], m[3]);
        }
        int handlers = z.nextInt(10) == 0 ? 0 : 1 + z.nextInt(8);
        boolean all = z.nextInt(4) > 0;
        for (int k = 0; k < handlers; k++) {
            boolean last = all && k == handlers - 1;
            int from = last ? 0 : z.nextInt(span);
            int to = last || z.nextInt(5) == 0 ? z.nextInt(200) : span;
            int mask = last ? -1 : z.nextInt(3) == 0 ? 1 << z.nextInt(32) : z.nextInt();
            int at = z.nextInt(20) == 0 ? z.nextInt(200) : rest + z.nextInt(span - rest);
            p.handlers.add(new int[] {from, to, mask, at});
            due("handler", x.handler(from, to, mask, at), p.handlers.size());
        }
        // One look at the end of one or two runs: more would be calls beyond the 512th.
        for (int again = z.nextInt(2); again >= 0; again--) {
            due("start", x.start(), p.start());
            for (int k = z.nextInt(6); k >= 0; k--) {
                int n = z.nextInt(10) == 0 ? 100 : z.nextInt(30);
                due("program " + number + " step", x.step(n), p.step(n));
            }
        }
        compare("program " + number + ": ", x, p);
    }

    /** Long chains of halves and rests, so that the smallest singles and doubles are met. */
    static void halves(Random z, int number, long[] worked, long[] failed) {
        Loom x = new Loom();
        Plain p = new Plain(worked, failed);
        for (int r = 0; r < 4; r++) add(x, p, 2, r, z.nextBoolean() ? z.nextInt() : z.nextInt(3) - 1, z.nextInt());
        for (int r = 0; r < 4; r++) add(x, p, 15, r, r, 0);
        for (int r = 0; r < 4; r++) add(x, p, 16, r, r, 0);
        for (int k = 0; k < 40; k++) add(x, p, 21 + z.nextInt(2), z.nextInt(2), z.nextInt(2), 0);
        add(x, p, 24, 2, 3, 0);
        add(x, p, 24, 2, 2, 1);
        add(x, p, 23, 2, 3, 0);
        add(x, p, 23, 2, 2, 1);
        add(x, p, 24, 3, 3, 2);
        add(x, p, 23, 3, 3, 2);
        add(x, p, 16, 3, z.nextInt(4), 0);
        add(x, p, 15, 3, z.nextInt(4), 0);
        add(x, p, 20, z.nextInt(3), z.nextInt(4), 0);
        add(x, p, 27, 12, 0, 0);
        // A divisor that has come down to 0: on with the numbers of the beginning.
        p.handlers.add(new int[] {0, 199, -1, 4});
        due("handler", x.handler(0, 199, -1, 4), 1);
        due("start", x.start(), p.start());
        for (int k = 0; k < 30; k++) {
            int n = 30 + z.nextInt(71);
            due("halves " + number + " step", x.step(n), p.step(n));
            compareNumbers("halves " + number + " call " + k + ": ", x, p);
        }
        compare("halves " + number + ": ", x, p);
    }

    /** put with an operand next to what it may name, and one far from it. */
    static void operands() {
        for (int op = -2; op < 77; op++) {
            boolean known = op >= 0 && op <= 73;
            String s = known ? shape(op) : "...";
            int[] good = {low(s.charAt(0)), low(s.charAt(1)), low(s.charAt(2))};
            for (int at = 0; at < 3; at++) {
                char sort = s.charAt(at);
                int[] tries = {low(sort), high(sort), low(sort) - 1, high(sort) + 1, -2147483648, 2147483647, -1};
                for (int value : tries) {
                    int[] v = good.clone();
                    v[at] = value;
                    boolean fine = known && (sort == '.' || (value >= low(sort) && value <= high(sort)));
                    due("put " + op + " " + v[0] + " " + v[1] + " " + v[2],
                        new Loom().put(op, v[0], v[1], v[2]), fine ? 1 : -1);
                }
            }
        }
    }

    public static void main(String[] args) {
        Random z = new Random(20261116L);
        long[] worked = new long[74];
        long[] failed = new long[24];
        operands();
        for (int k = 0; k < PROGRAMS && wrong <= 40; k++) program(z, k, worked, failed);
        for (int k = 0; k < ODD_PROGRAMS && wrong <= 40; k++) halves(z, k, worked, failed);
        // Programs that never got somewhere would prove nothing.
        for (int op = 0; op < 74; op++) due("operation " + op + " was done often", op == 68 || worked[op] > 60 ? 1 : 0, 1);
        for (int n = 1; n < 24; n++) due("failure " + n + " was met often", failed[n] > 50 ? 1 : 0, 1);
        finish();
    }
}
