import java.lang.reflect.Array;
import java.util.ArrayList;
import java.util.Arrays;
import java.util.List;
import java.util.Random;

/**
 * Long runs of calls, drawn by fixed seeds, on a TypeCases and on a model of Java's own arrays.
 * The model shares no code with the program: java.lang.reflect.Array reads, widens and refuses.
 */
public final class ModelTest {
    private static final int RUNS = 4000;
    // Each is followed by failed(), and an object is used for 512 calls at most.
    private static final int CALLS = 240;
    private static final int MOST_TOLD = 20;

    public static void main(String[] args) {
        Answers answers = new Answers("ModelTest");
        for (int seed = 0; seed < RUNS && answers.wrong() < MOST_TOLD; seed++) {
            new Run(seed, answers).go();
        }
        answers.end();
    }

    private static class Glyph {
        final int number;
        final int weight;

        Glyph(int number, int weight) {
            this.number = number;
            this.weight = weight;
        }
    }

    private static final class Capital extends Glyph {
        Capital(int number, int width) {
            super(number, 3 * width + 5);
        }
    }

    /** One run: each call goes to both, and their answers must agree. */
    private static final class Run {
        final Random random;
        final int seed;
        final Answers answers;
        final TypeCases x = new TypeCases();
        final Model model = new Model();
        final int cases;
        final int[] sorts;

        Run(int seed, Answers answers) {
            this.seed = seed;
            this.answers = answers;
            random = new Random(seed);
            // Few cases and sorts in a run let more of its calls meet one another.
            cases = 1 + random.nextInt(12);
            sorts = new int[1 + random.nextInt(6)];
            for (int s = 0; s < sorts.length; s++) {
                sorts[s] = random.nextInt(13);
            }
        }

        void go() {
            for (int call = 0; call < CALLS; call++) {
                one(call);
                answers.due("seed " + seed + " failed() behind call " + call, model.cause, x.failed());
            }
        }

        int c() {
            return random.nextInt(60) == 0 ? odd(12) : random.nextInt(cases);
        }

        int hand() {
            return random.nextInt(60) == 0 ? odd(4) : random.nextInt(4);
        }

        int place() {
            return random.nextInt(12) == 0 ? odd(20) : random.nextInt(7);
        }

        int kind() {
            return random.nextInt(20) == 0 ? odd(8) : random.nextInt(9);
        }

        int sort() {
            return random.nextInt(20) == 0 ? odd(13) : sorts[random.nextInt(sorts.length)];
        }

        int size() {
            return random.nextInt(20) == 0 ? odd(21) : random.nextInt(random.nextBoolean() ? 8 : 21);
        }

        int many() {
            return random.nextInt(20) == 0 ? odd(101) : random.nextInt(12);
        }

        /** A bound, one before it, or far out. */
        int odd(int bound) {
            int[] all = {-1, bound, bound - 1, bound + 1, -2, Integer.MAX_VALUE, Integer.MIN_VALUE, 0};
            return all[random.nextInt(all.length)];
        }

        long bits() {
            long[] all = {0L, 1L, -1L, 0x80000000L, 0x7fc00000L, 0xffc12345L, 0x7f800001L, 0x7f800000L, 0xff800000L,
                1L << 63, 0x7ff0000000000000L, 0xfff0000000000000L, 0x7ff0000000000001L, 0xfff8000000000001L,
                0x3ff0000000000000L, 0xbff0000000000000L, 0x3f800000L, 0xbf800000L, 0x00000001L, 0x007fffffL,
                (1L << 53) + 1, (1L << 53) + 3, (1L << 24) + 1, (1L << 24) + 3, Long.MAX_VALUE, 0x7fffffbfffffffffL};
            switch (random.nextInt(4)) {
                case 0:
                    return random.nextInt(9) - 4;
                case 1:
                    return random.nextLong();
                case 2:
                    return random.nextLong() >> random.nextInt(64);
                default:
                    return all[random.nextInt(all.length)];
            }
        }

        void agree(int call, String text, long want, long got) {
            answers.due("seed " + seed + " call " + call + " " + text, want, got);
        }

        void one(int call) {
            int h = hand();
            int c = c();
            int b = c();
            int i = place();
            int k = place();
            int n = many();
            int kind = kind();
            String text = " h=" + h + " c=" + c + " b=" + b + " i=" + i + " k=" + k + " n=" + n + " kind=" + kind;
            switch (random.nextInt(27)) {
                case 0: case 1: {
                    int sort = sort();
                    int size = size();
                    agree(call, "hold sort=" + sort + " n=" + size + text, model.hold(c, sort, size), x.hold(c, sort, size));
                    break;
                }
                case 2: {
                    int width = random.nextInt(8) == 0 ? odd(10001) : random.nextInt(50);
                    boolean capital = random.nextBoolean();
                    agree(call, "letter " + width + capital, model.letter(width, capital), x.letter(width, capital));
                    break;
                }
                case 3:
                    agree(call, "set" + text, model.set(c, h), x.set(c, h));
                    break;
                case 4: case 5: {
                    int g = random.nextInt(10) == 0 ? odd(40) : random.nextInt(5) - 1;
                    agree(call, "give " + g + text, model.give(h, g), x.give(h, g));
                    break;
                }
                case 6:
                    agree(call, "lift" + text, model.lift(h, c), x.lift(h, c));
                    break;
                case 7: case 8: {
                    long bits = bits();
                    int own = random.nextInt(3) > 0 ? sorts[0] : kind;
                    agree(call, "number " + own + " " + bits, model.number(h, own, bits), x.number(h, own, bits));
                    break;
                }
                case 9:
                    agree(call, "take" + text, model.take(h, c, i), x.take(h, c, i));
                    break;
                case 10: case 11: case 12:
                    agree(call, "put" + text, model.put(h, c, i), x.put(h, c, i));
                    break;
                case 13:
                    agree(call, "swap" + text, model.swap(h, c, i), x.swap(h, c, i));
                    break;
                case 14: case 15:
                    agree(call, "exchange" + text, model.exchange(c, i, b, k), x.exchange(c, i, b, k));
                    break;
                case 16:
                    agree(call, "kind" + text, model.kind(h), x.kind(h));
                    break;
                case 17: {
                    int as = random.nextInt(20) == 0 ? odd(10) : random.nextInt(10);
                    agree(call, "value " + as + text, model.value(h, as), x.value(h, as));
                    break;
                }
                case 18:
                    agree(call, "weight" + text, model.weight(h), x.weight(h));
                    break;
                case 19: case 20:
                    agree(call, "tell" + text, model.tell(c, i, kind), x.tell(c, i, kind));
                    break;
                case 21:
                    agree(call, "places, sort" + text, model.places(c), x.places(c));
                    agree(call, "places, sort" + text, model.sort(c), x.sort(c));
                    break;
                case 22:
                    agree(call, "turn" + text, model.turn(c), x.turn(c));
                    break;
                case 23: {
                    int as = random.nextInt(8) == 0 ? kind : random.nextBoolean() ? 5 : 7;
                    agree(call, "order " + as + text, model.order(c, as), x.order(c, as));
                    break;
                }
                case 24:
                    agree(call, "spread" + text, model.spread(c, i, n), x.spread(c, i, n));
                    break;
                case 25:
                    agree(call, "gather" + text, model.gather(c, i, n, b), x.gather(c, i, n, b));
                    break;
                default:
                    agree(call, "find" + text, model.find(h, c), x.find(h, c));
                    break;
            }
        }
    }

    private static final class Model {
        static final Class<?>[] TYPES = {boolean.class, byte.class, short.class, char.class, int.class, long.class,
            float.class, double.class, Glyph.class, Capital.class, char[].class};
        static final Class<?>[] BOXES = {Boolean.class, Byte.class, Short.class, Character.class, Integer.class,
            Long.class, Float.class, Double.class};

        final Object[] cases = new Object[12];
        final Object[] hands = new Object[4];
        final List<Glyph> glyphs = new ArrayList<>();
        int cause = 0;

        private static final class Broken extends RuntimeException {
            private static final long serialVersionUID = 1L;
            final int cause;

            Broken(int cause) {
                this.cause = cause;
            }
        }

        private interface Step {
            long go();
        }

        /** A call with causes: what Java's arrays refuse becomes the cause. */
        private long trying(Step step) {
            try {
                long answer = step.go();
                cause = 0;
                return answer;
            } catch (NullPointerException e) {
                cause = 1;
            } catch (IllegalArgumentException e) {
                cause = 2;
            } catch (ArrayIndexOutOfBoundsException e) {
                cause = 3;
            } catch (Broken e) {
                cause = e.cause;
            }
            return -10 - cause;
        }

        private static boolean no(int index, int bound) {
            return index < 0 || index >= bound;
        }

        private static boolean isArray(Object o) {
            return o != null && o.getClass().isArray();
        }

        private static int boxKind(Object o) {
            return o == null ? -1 : Arrays.asList(BOXES).indexOf(o.getClass());
        }

        private static long told(Object array, int i, int kind) {
            switch (kind) {
                case 0: return Array.getBoolean(array, i) ? 1 : 0;
                case 1: return Array.getByte(array, i);
                case 2: return Array.getShort(array, i);
                case 3: return Array.getChar(array, i);
                case 4: return Array.getInt(array, i);
                case 5: return Array.getLong(array, i);
                case 6: return Float.floatToIntBits(Array.getFloat(array, i));
                default: return Double.doubleToLongBits(Array.getDouble(array, i));
            }
        }

        long hold(int c, int sort, int n) {
            if (no(c, 12)) return -1001;
            if (sort != 12 && (no(sort, 11) || no(n, 21))) return -1002;
            cases[c] = sort == 12 ? null : Array.newInstance(TYPES[sort], n);
            return 1;
        }

        long letter(int width, boolean capital) {
            if (no(width, 10001)) return -1002;
            if (glyphs.size() == 40) return -1003;
            int number = glyphs.size();
            glyphs.add(capital ? new Capital(number, width) : new Glyph(number, width));
            return number;
        }

        long set(int c, int h) {
            if (no(c, 12) || no(h, 4)) return -1001;
            return trying(() -> {
                if (boxKind(hands[h]) >= 0) throw new Broken(2);
                cases[c] = hands[h];
                return 1;
            });
        }

        long give(int h, int g) {
            if (no(h, 4) || g != -1 && no(g, glyphs.size())) return -1001;
            hands[h] = g == -1 ? null : glyphs.get(g);
            return 1;
        }

        long lift(int h, int c) {
            if (no(c, 12) || no(h, 4)) return -1001;
            hands[h] = cases[c];
            return 1;
        }

        long number(int h, int kind, long bits) {
            if (no(h, 4)) return -1001;
            if (no(kind, 8)) return -1002;
            Object[] all = {(bits & 1) == 1, (byte) bits, (short) bits, (char) bits, (int) bits, bits,
                Float.intBitsToFloat((int) bits), Double.longBitsToDouble(bits)};
            hands[h] = all[kind];
            return 1;
        }

        long take(int h, int c, int i) {
            if (no(c, 12) || no(h, 4)) return -1001;
            return trying(() -> {
                hands[h] = Array.get(cases[c], i);
                return 1;
            });
        }

        long put(int h, int c, int i) {
            if (no(c, 12) || no(h, 4)) return -1001;
            return trying(() -> {
                write(cases[c], i, hands[h]);
                return 1;
            });
        }

        /** Java's own rule for null into numbers is not written down, so it is told here. */
        private static void write(Object array, int i, Object what) {
            if (what == null && isArray(array) && array.getClass().getComponentType().isPrimitive()) {
                throw new Broken(2);
            }
            Array.set(array, i, what);
        }

        long swap(int h, int c, int i) {
            if (no(c, 12) || no(h, 4)) return -1001;
            return trying(() -> {
                Object stood = Array.get(cases[c], i);
                write(cases[c], i, hands[h]);
                hands[h] = stood;
                return 1;
            });
        }

        long exchange(int a, int i, int b, int k) {
            if (no(a, 12) || no(b, 12)) return -1001;
            return trying(() -> {
                Object first = Array.get(cases[a], i);
                Object second = Array.get(cases[b], k);
                write(cases[b], k, first);
                try {
                    write(cases[a], i, second);
                } catch (RuntimeException e) {
                    write(cases[b], k, second);
                    throw e;
                }
                return 1;
            });
        }

        long kind(int h) {
            if (no(h, 4)) return -1001;
            if (hands[h] == null) return 12;
            return boxKind(hands[h]) >= 0 ? boxKind(hands[h]) : isArray(hands[h]) ? 9 : 8;
        }

        long value(int h, int kind) {
            if (no(h, 4)) return -1001;
            if (no(kind, 10)) return -1002;
            return trying(() -> {
                Object held = hands[h];
                if (held == null) throw new Broken(1);
                if (kind == 8 && held instanceof Glyph) return ((Glyph) held).number;
                if (kind == 9 && isArray(held)) return Array.getLength(held);
                int own = boxKind(held);
                if (kind > 7 || own < 0) throw new Broken(2);
                Object box = Array.newInstance(TYPES[own], 1);
                Array.set(box, 0, held);
                return told(box, 0, kind);
            });
        }

        long weight(int h) {
            if (no(h, 4)) return -1001;
            return trying(() -> {
                if (hands[h] == null) throw new Broken(1);
                if (!(hands[h] instanceof Glyph)) throw new Broken(2);
                return ((Glyph) hands[h]).weight;
            });
        }

        long tell(int c, int i, int kind) {
            if (no(c, 12)) return -1001;
            if (no(kind, 8)) return -1002;
            return trying(() -> told(cases[c], i, kind));
        }

        long places(int c) {
            if (no(c, 12)) return -1001;
            return trying(() -> Array.getLength(cases[c]));
        }

        long sort(int c) {
            if (no(c, 12)) return -1001;
            if (cases[c] == null) return 12;
            return isArray(cases[c]) ? Arrays.asList(TYPES).indexOf(cases[c].getClass().getComponentType()) : 11;
        }

        long turn(int c) {
            if (no(c, 12)) return -1001;
            return trying(() -> {
                int n = Array.getLength(cases[c]);
                Object[] stood = new Object[n];
                for (int i = 0; i < n; i++) stood[i] = Array.get(cases[c], i);
                for (int i = 0; i < n; i++) Array.set(cases[c], n - 1 - i, stood[i]);
                return n;
            });
        }

        long order(int c, int kind) {
            if (no(c, 12)) return -1001;
            if (kind != 5 && kind != 7) return -1002;
            return trying(() -> {
                Object array = cases[c];
                int n = Array.getLength(array);
                Object[] stood = new Object[n];
                Integer[] at = new Integer[n];
                long[] longs = new long[n];
                double[] doubles = new double[n];
                for (int i = 0; i < n; i++) {
                    if (kind == 5) longs[i] = Array.getLong(array, i);
                    else doubles[i] = Array.getDouble(array, i);
                    stood[i] = Array.get(array, i);
                    at[i] = i;
                }
                int count = 0;
                for (int i = 0; i < n; i++) {
                    boolean late = false;
                    for (int j = 0; j < i; j++) {
                        late |= kind == 5 ? longs[j] > longs[i] : behind(doubles[j], doubles[i]);
                    }
                    count += late ? 1 : 0;
                }
                Arrays.sort(at, (p, q) -> kind == 5 ? Long.compare(longs[p], longs[q])
                    : behind(doubles[p], doubles[q]) ? 1 : behind(doubles[q], doubles[p]) ? -1 : 0);
                for (int i = 0; i < n; i++) Array.set(array, i, stood[at[i]]);
                return count;
            });
        }

        private static boolean behind(double p, double q) {
            return Double.isNaN(p) ? !Double.isNaN(q) : p > q;
        }

        long spread(int c, int i, int n) {
            if (no(c, 12)) return -1001;
            if (no(n, 101)) return -1002;
            long answer = trying(() -> {
                Array.get(cases[c], i);
                return 0;
            });
            if (answer != 0) return answer;
            Object stood = Array.get(cases[c], i);
            for (int k = 1; k <= n; k++) {
                int to = i + k;
                if (trying(() -> { Array.set(cases[c], to, stood); return 0; }) != 0) return k - 1;
            }
            return n;
        }

        long gather(int from, int i, int n, int to) {
            if (no(from, 12) || no(to, 12)) return -1001;
            if (no(n, 101)) return -1002;
            cause = 0;
            for (int k = 0; k < n; k++) {
                int place = k;
                long answer = trying(() -> { write(cases[to], place, Array.get(cases[from], i + place)); return 0; });
                if (answer != 0) return k == 0 ? answer : k;
            }
            return n;
        }

        long find(int h, int c) {
            if (no(c, 12) || no(h, 4)) return -1001;
            return trying(() -> {
                for (int i = Array.getLength(cases[c]) - 1; i >= 0; i--) {
                    Object stands = Array.get(cases[c], i);
                    boolean same = boxKind(stands) >= 0 ? stands.equals(hands[h]) : stands == hands[h];
                    if (same) return i;
                }
                return -1;
            });
        }
    }
}
