import java.lang.reflect.Array;
import java.util.ArrayList;
import java.util.List;

/**
 * A loom of Java's own arrays, classes, casts and exceptions (the machine may throw here: this is a
 * test), with the document's face. What the document asks for is written a second time here.
 */
final class PlainLoom {
    interface Ops {
        int turn(int x);
    }

    static class Knot implements Ops {
        int tag;
        long weight;
        Knot next;

        public int turn(int x) {
            return x + tag;
        }
    }

    static class Ring extends Knot { }

    static class Bow extends Ring {
        @Override
        public int turn(int x) {
            return 2 * super.turn(x) + 1;
        }
    }

    static class Slip implements Ops {
        int tag;

        public int turn(int x) {
            return tag * x;
        }
    }

    static class Fault extends RuntimeException {
        private static final long serialVersionUID = 1L;
        final int number;
        final transient Fault before;

        Fault(int number, Fault before) {
            super(null, null, false, false);
            this.number = number;
            this.before = before;
        }
    }

    static class NoRoom extends RuntimeException {
        private static final long serialVersionUID = 1L;
    }

    static int kindOf(Object t) {
        if (t == null) return -1;
        Class<?>[] kinds = {boolean[].class, byte[].class, char[].class, short[].class, int[].class,
            long[].class, float[].class, double[].class, Knot[].class, Ring[].class, int[][].class,
            Knot.class, Ring.class, Bow.class, Slip.class, Fault.class};
        for (int k = 0; k < kinds.length; k++) {
            if (t.getClass() == kinds[k]) return k;
        }
        throw new AssertionError(t);
    }

    final List<int[]> steps = new ArrayList<>();
    final List<int[]> handlers = new ArrayList<>();
    int[] w = new int[8];
    long[] l = new long[4];
    float[] f = new float[4];
    double[] d = new double[4];
    Object[] t = new Object[8];
    final List<Integer> told = new ArrayList<>();
    final List<Integer> calls = new ArrayList<>();
    int status;
    int place;
    int next;
    int done;
    int made;
    int failures;
    int failure;
    int failurePlace = -1;
    int handled;
    Fault handledFault;
    final long[] worked;
    final long[] failed;

    PlainLoom(long[] worked, long[] failed) {
        this.worked = worked;
        this.failed = failed;
    }

    static boolean isPlace(int place) {
        return place >= 0 && place <= 199;
    }

    static boolean isStep(int op, int... operands) {
        if (op < 0 || op > 73) return false;
        for (int k = 0; k < 3; k++) {
            char s = shape(op).charAt(k);
            if (s != '.' && (operands[k] < low(s) || operands[k] > high(s))) return false;
        }
        return true;
    }

    int put(int op, int a, int b, int c) {
        if (!isStep(op, a, b, c)) return -1;
        if (steps.size() == 150) return -2;
        steps.add(new int[] {op, a, b, c});
        status = 0;
        return steps.size();
    }

    int handler(int from, int to, int mask, int at) {
        if (!isPlace(from) || !isPlace(to) || !isPlace(at)) return -1;
        if (handlers.size() == 16) return -2;
        handlers.add(new int[] {from, to, mask, at});
        status = 0;
        return handlers.size();
    }

    int clear() {
        int count = steps.size();
        steps.clear();
        handlers.clear();
        status = 0;
        return count;
    }

    boolean start() {
        w = new int[8];
        l = new long[4];
        f = new float[4];
        d = new double[4];
        t = new Object[8];
        told.clear();
        calls.clear();
        done = made = failures = failure = handled = 0;
        failurePlace = -1;
        handledFault = null;
        goOn(0);
        return !steps.isEmpty();
    }

    void goOn(int to) {
        place = to;
        status = to < steps.size() ? 1 : 2;
    }

    int step(int n) {
        if (status == 0) return -1;
        if (n < 0 || n > 100) return -2;
        for (int k = 0; k < n && status == 1; k++) one();
        return status - 1;
    }

    void one() {
        int[] s = steps.get(place);
        next = place + 1;
        done++;
        int number = 0;
        Fault thrown = null;
        try {
            exec(s[0], s[1], s[2], s[3]);
            worked[s[0]]++;
        } catch (NullPointerException e) {
            number = 1;
        } catch (IndexOutOfBoundsException e) {
            number = 2;
        } catch (NegativeArraySizeException e) {
            number = 3;
        } catch (ClassCastException e) {
            number = 4;
        } catch (ArrayStoreException e) {
            number = 5;
        } catch (ArithmeticException e) {
            number = 6;
        } catch (NoRoom e) {
            number = 7;
        } catch (Fault e) {
            number = e.number;
            thrown = e;
        }
        if (number == 0) {
            if (status == 1) goOn(next);
            return;
        }
        failed[number]++;
        failures++;
        failure = number;
        failurePlace = place;
        int from = place;
        while (true) {
            for (int[] h : handlers) {
                if (h[0] <= from && from <= h[1] - 1 && (h[2] & (1 << number)) != 0) {
                    handled = number;
                    handledFault = thrown;
                    goOn(h[3]);
                    return;
                }
            }
            if (calls.isEmpty()) {
                status = 3;
                return;
            }
            from = calls.remove(calls.size() - 1);
        }
    }

    void room(int more) {
        if (made + more > 60) throw new NoRoom();
    }

    Object row(int kind, int n) {
        if (n > 12) throw new NoRoom();
        if (n >= 0) room(1);
        Object made = kind == 0 ? new boolean[n] : kind == 1 ? new byte[n] : kind == 2 ? new char[n]
            : kind == 3 ? new short[n] : kind == 4 ? new int[n] : kind == 5 ? new long[n]
            : kind == 6 ? new float[n] : kind == 7 ? new double[n] : kind == 8 ? new Knot[n] : new Ring[n];
        this.made++;
        return made;
    }

    Object grid(int n, int m) {
        if (n > 6 || m > 6) throw new NoRoom();
        if (n >= 0 && m >= 0) room(1 + n);
        Object made = new int[n][m];
        this.made += 1 + n;
        return made;
    }

    Object knotOrSlip(int kind, int tag) {
        room(1);
        made++;
        if (kind == 14) {
            Slip s = new Slip();
            s.tag = tag;
            return s;
        }
        Knot k = kind == 11 ? new Knot() : kind == 12 ? new Ring() : new Bow();
        k.tag = tag;
        return k;
    }

    static boolean is(Object x, int kind) {
        switch (kind) {
            case 8: return x instanceof Knot[];
            case 11: return x instanceof Knot;
            case 12: return x instanceof Ring;
            case 16: return x instanceof Ops;
            default: return kindOf(x) == kind;
        }
    }

    static int lengthOf(Object x) {
        if (x == null) throw new NullPointerException();
        if (kindOf(x) > 10) throw new ClassCastException();
        return Array.getLength(x);
    }

    void exec(int op, int a, int b, int c) {
        switch (op) {
            case 0: status = 2; break;
            case 1: w[a] = b; break;
            case 2: l[a] = b * 4294967296L + Integer.toUnsignedLong(c); break;
            case 3: w[a] = w[b]; break;
            case 4: w[a] = w[b] + w[c]; break;
            case 5: w[a] = w[b] - w[c]; break;
            case 6: w[a] = w[b] * w[c]; break;
            case 7: w[a] = w[b] / w[c]; break;
            case 8: w[a] = w[b] % w[c]; break;
            case 9: l[a] = l[b] + l[c]; break;
            case 10: l[a] = l[b] * l[c]; break;
            case 11: l[a] = l[b] / l[c]; break;
            case 12: l[a] = l[b] % l[c]; break;
            case 13: l[a] = w[b]; break;
            case 14: w[a] = (int) l[b]; break;
            case 15: f[a] = l[b]; break;
            case 16: d[a] = l[b]; break;
            case 17: l[a] = (long) f[b]; break;
            case 18: w[a] = (int) d[b]; break;
            case 19: d[a] = f[b]; break;
            case 20: f[a] = (float) d[b]; break;
            case 21: f[a] = f[b] / 2; break;
            case 22: d[a] = d[b] / 2; break;
            case 23: if (f[c] == 0) throw new ArithmeticException(); f[a] = f[b] % f[c]; break;
            case 24: if (d[c] == 0) throw new ArithmeticException(); d[a] = d[b] % d[c]; break;
            case 25: w[a] = w[b] < w[c] ? 1 : 0; break;
            case 26: w[a] = d[b] < d[c] ? 1 : 0; break;
            case 27: next = a; break;
            case 28: if (w[a] == 0) next = b; break;
            case 29: if (calls.size() == 12) throw new NoRoom(); calls.add(place); next = a; break;
            case 30:
                if (calls.isEmpty()) status = 2;
                else next = calls.remove(calls.size() - 1) + 1;
                break;
            case 31: t[a] = row(b, w[c]); break;
            case 32: t[a] = grid(w[b], w[c]); break;
            case 33: t[a] = knotOrSlip(b, w[c]); break;
            case 34: t[a] = t[b]; break;
            case 35: t[a] = null; break;
            case 36: w[a] = t[b] == t[c] ? 1 : 0; break;
            case 37: w[a] = is(t[b], c) ? 1 : 0; break;
            case 38: w[a] = lengthOf(t[b]); break;
            case 39: w[a] = ((boolean[]) t[b])[w[c]] ? 1 : 0; break;
            case 40: w[a] = ((byte[]) t[b])[w[c]]; break;
            case 41: w[a] = ((char[]) t[b])[w[c]]; break;
            case 42: w[a] = ((short[]) t[b])[w[c]]; break;
            case 43: w[a] = ((int[]) t[b])[w[c]]; break;
            case 44: l[a] = ((long[]) t[b])[w[c]]; break;
            case 45: f[a] = ((float[]) t[b])[w[c]]; break;
            case 46: d[a] = ((double[]) t[b])[w[c]]; break;
            case 47: t[a] = ((Knot[]) t[b])[w[c]]; break;
            case 48: t[a] = ((int[][]) t[b])[w[c]]; break;
            case 49: ((boolean[]) t[b])[w[c]] = (w[a] & 1) != 0; break;
            case 50: ((byte[]) t[b])[w[c]] = (byte) w[a]; break;
            case 51: ((char[]) t[b])[w[c]] = (char) w[a]; break;
            case 52: ((short[]) t[b])[w[c]] = (short) w[a]; break;
            case 53: ((int[]) t[b])[w[c]] = w[a]; break;
            case 54: ((long[]) t[b])[w[c]] = l[a]; break;
            case 55: ((float[]) t[b])[w[c]] = f[a]; break;
            case 56: ((double[]) t[b])[w[c]] = d[a]; break;
            case 57: ((Knot[]) t[b])[w[c]] = (Knot) t[a]; break;
            case 58: ((int[][]) t[b])[w[c]] = (int[]) t[a]; break;
            case 59: w[a] = ((Knot) t[b]).tag; break;
            case 60: ((Knot) t[b]).tag = w[a]; break;
            case 61: l[a] = ((Knot) t[b]).weight; break;
            case 62: ((Knot) t[b]).weight = l[a]; break;
            case 63: t[a] = ((Knot) t[b]).next; break;
            case 64: ((Knot) t[b]).next = (Knot) t[a]; break;
            case 65: w[a] = ((Knot) t[b]).turn(w[c]); break;
            case 66: w[a] = ((Ops) t[b]).turn(w[c]); break;
            case 67: {
                Fault cause = (Fault) t[c];
                room(1);
                made++;
                t[a] = new Fault(8 + (w[b] & 15), cause);
                break;
            }
            case 68: throw (Fault) t[a];
            case 69: t[a] = handledFault; break;
            case 70: w[a] = ((Fault) t[b]).number; break;
            case 71: t[a] = ((Fault) t[b]).before; break;
            case 72: w[a] = handled; break;
            case 73: told.add(w[a]); break;
            default: throw new AssertionError();
        }
    }

    int word(int r) {
        return r < 0 || r > 7 ? 0 : w[r];
    }

    long wide(int r) {
        return r < 0 || r > 3 ? 0 : l[r];
    }

    double single(int r) {
        return r < 0 || r > 3 ? 0 : f[r];
    }

    double real(int r) {
        return r < 0 || r > 3 ? 0 : d[r];
    }

    Object thing(int r) {
        return r < 0 || r > 7 ? null : t[r];
    }

    int kind(int r) {
        return r < 0 || r > 7 ? -2 : kindOf(t[r]);
    }

    int size(int r) {
        return sizeOf(thing(r));
    }

    long cell(int r, int i) {
        return cellOf(thing(r), i);
    }

    double point(int r, int i) {
        return pointOf(thing(r), i);
    }

    long field(int r, int what) {
        return fieldOf(thing(r), what);
    }

    boolean same(int r, int q) {
        return thing(r) != null && thing(r) == thing(q);
    }

    int state(int what) {
        int[] all = {steps.size(), handlers.size(), place, done, calls.size(), made, told.size(),
            failures, failure, failurePlace, status};
        return what < 0 || what >= all.length ? -1 : all[what];
    }

    int told(int i) {
        return i < 0 || i >= told.size() || i >= 200 ? 0 : told.get(i);
    }

    static int sizeOf(Object x) {
        return kindOf(x) < 0 || kindOf(x) > 10 ? -1 : Array.getLength(x);
    }

    static long cellOf(Object x, int i) {
        if (i < 0 || i >= sizeOf(x)) return 0;
        Object at = Array.get(x, i);
        switch (kindOf(x)) {
            case 0: return (Boolean) at ? 1 : 0;
            case 2: return (Character) at;
            case 1: case 3: case 4: case 5: return ((Number) at).longValue();
            case 8: case 9: return kindOf(at);
            case 10: return sizeOf(at);
            default: return 0;
        }
    }

    static double pointOf(Object x, int i) {
        if (x instanceof float[] && i >= 0 && i < ((float[]) x).length) return ((float[]) x)[i];
        if (x instanceof double[] && i >= 0 && i < ((double[]) x).length) return ((double[]) x)[i];
        return 0;
    }

    static long fieldOf(Object x, int what) {
        if (x instanceof Knot) {
            Knot k = (Knot) x;
            return what == 0 ? k.tag : what == 1 ? k.weight : what == 2 ? kindOf(k.next) : 0;
        }
        if (x instanceof Slip) return what == 0 ? ((Slip) x).tag : 0;
        if (x instanceof Fault) return what == 0 ? ((Fault) x).number : what == 2 ? kindOf(((Fault) x).before) : 0;
        return 0;
    }

    // What a, b, c name, by the document's list: written a second time here on purpose.
    static String shape(int op) {
        if (op == 0 || op == 30) return "...";
        if (op == 1 || op == 72 || op == 73) return "W..";
        if (op == 2) return "L..";
        if (op == 3) return "WW.";
        if (op <= 8 || op == 25) return "WWW";
        if (op <= 12) return "LLL";
        if (op <= 20) return new String[] {"LW.", "WL.", "FL.", "DL.", "LF.", "WD.", "DF.", "FD."}[op - 13];
        if (op <= 24) return new String[] {"FF.", "DD.", "FFF", "DDD"}[op - 21];
        if (op <= 29) return new String[] {"WDD", "P..", "WP.", "P.."}[op - 26];
        if (op <= 38) return new String[] {"TRW", "TWW", "TNW", "TT.", "T..", "WTT", "WTK", "WT."}[op - 31];
        if (op <= 58) return "WWWWWLFDTT".charAt((op - 39) % 10) + "TW";
        if (op <= 66) return new String[] {"WT.", "WT.", "LT.", "LT.", "TT.", "TT.", "WTW", "WTW"}[op - 59];
        return new String[] {"TWT", "T..", "T..", "WT.", "TT."}[op - 67];
    }

    static int low(char s) {
        return s == 'N' ? 11 : 0;
    }

    static int high(char s) {
        return s == 'W' || s == 'T' ? 7 : s == 'P' ? 199 : s == 'R' ? 9 : s == 'N' ? 14 : s == 'K' ? 16 : 3;
    }
}
