/** The edges that the term KINDS names: which kind goes into which, and what number it is there. */
public final class KindsEdgesTest {
    private static final Answers A = new Answers("KindsEdgesTest");

    public static void main(String[] args) {
        A.test("A KIND GOES INTO itself", KindsEdgesTest::itself);
        A.test("1 into 2, 4, 5, 6, 7", () -> goes(1, 2, 4, 5, 6, 7));
        A.test("1 not into 3", () -> staysOut(1, 3));
        A.test("2 and 3 into 4, 5, 6, 7: 2", () -> goes(2, 4, 5, 6, 7));
        A.test("2 and 3 into 4, 5, 6, 7: 3", () -> goes(3, 4, 5, 6, 7));
        A.test("2 and 3 not into one another", KindsEdgesTest::shortsAndChars);
        A.test("4 into 5, 6, 7", () -> goes(4, 5, 6, 7));
        A.test("5 into 6, 7", () -> goes(5, 6, 7));
        A.test("6 into 7", () -> goes(6, 7));
        A.test("0 goes into nothing else", () -> staysOut(0, 1, 2, 3, 4, 5, 6, 7));
        A.test("nothing else goes into 0", KindsEdgesTest::nothingIntoTruths);
        A.test("2 and 3 not into 1", KindsEdgesTest::notIntoBytes);
        A.test("4 not into a smaller one", () -> staysOut(4, 1, 2, 3));
        A.test("5 not into a smaller one", () -> staysOut(5, 1, 2, 3, 4));
        A.test("6 not into a smaller one", () -> staysOut(6, 1, 2, 3, 4, 5));
        A.test("7 not into a smaller one", () -> staysOut(7, 1, 2, 3, 4, 5, 6));
        A.test("the same number: -1, 0, 1 of each whole KIND", KindsEdgesTest::aroundZero);
        A.test("the same number: the ends of bytes", KindsEdgesTest::endsOfBytes);
        A.test("the same number: the ends of shorts", KindsEdgesTest::endsOfShorts);
        A.test("the same number: the ends of chars", KindsEdgesTest::endsOfChars);
        A.test("the same number: the ends of ints", KindsEdgesTest::endsOfInts);
        A.test("the same number: the ends of floats as doubles", KindsEdgesTest::endsOfFloats);
        A.test("the nearest one in 6, of ints", KindsEdgesTest::nearestFloatOfInts);
        A.test("the nearest one in 6, of longs", KindsEdgesTest::nearestFloatOfLongs);
        A.test("the nearest one in 6, not that of the nearest one in 7", KindsEdgesTest::roundedOnce);
        A.test("the nearest one in 7, of longs", KindsEdgesTest::nearestDouble);
        A.test("of two as near the one whose last bit is 0: 6, of ints", KindsEdgesTest::evenFloatOfInts);
        A.test("of two as near the one whose last bit is 0: 6, of longs", KindsEdgesTest::evenFloatOfLongs);
        A.test("of two as near the one whose last bit is 0: 7", KindsEdgesTest::evenDouble);
        A.test("the nearest one of the ends of longs", KindsEdgesTest::endsOfLongs);
        A.end();
    }

    /** 3, or the truth 1, as each kind tells it. */
    private static long told(int kind) {
        long[] all = {1, 3, 3, 3, 3, 3, Shop.bits(3f), Shop.bits(3.0)};
        return all[kind];
    }

    /** Hand 0 and case 0 have a number of one kind; case 1 is a row of the other kind. */
    private static TypeCases two(int from, int to) {
        TypeCases x = new TypeCases();
        x.number(0, from, told(from));
        Shop.row(x, 0, from, told(from));
        x.hold(1, to, 1);
        return x;
    }

    private static void itself() {
        for (int kind = 0; kind <= 7; kind++) {
            TypeCases x = two(kind, kind);
            A.due(x, "exchange, kind " + kind, 1, 0, x.exchange(0, 0, 1, 0));
            A.due("what came there", told(kind), x.tell(1, 0, kind));
            A.due("what stood there", 0, x.tell(0, 0, kind));
            goes(kind, kind);
        }
    }

    /** By each call that lets a number come to a place, or be told. */
    private static void goes(int from, int... into) {
        for (int to : into) {
            String what = from + " into " + to;
            TypeCases x = two(from, to);
            A.due(x, "value, " + what, told(to), 0, x.value(0, to));
            A.due(x, "tell, " + what, told(to), 0, x.tell(0, 0, to));
            A.due(x, "put, " + what, 1, 0, x.put(0, 1, 0));
            A.due("put, " + what, told(to), x.tell(1, 0, to));
            x = two(from, to);
            A.due(x, "swap, " + what, 1, 0, x.swap(0, 1, 0));
            A.due("swap, " + what, told(to), x.tell(1, 0, to));
            x = two(from, to);
            A.due(x, "gather, " + what, 1, 0, x.gather(0, 0, 1, 1));
            A.due("gather, " + what, told(to), x.tell(1, 0, to));
        }
    }

    private static void staysOut(int from, int... of) {
        for (int to : of) {
            String what = from + " not into " + to;
            TypeCases x = two(from, to);
            A.due(x, "value, " + what, Shop.MISFIT, 2, x.value(0, to));
            A.due(x, "tell, " + what, Shop.MISFIT, 2, x.tell(0, 0, to));
            A.due(x, "put, " + what, Shop.MISFIT, 2, x.put(0, 1, 0));
            A.due(x, "swap, " + what, Shop.MISFIT, 2, x.swap(0, 1, 0));
            A.due(x, "exchange, " + what, Shop.MISFIT, 2, x.exchange(0, 0, 1, 0));
            A.due(x, "exchange back, " + what, Shop.MISFIT, 2, x.exchange(1, 0, 0, 0));
            A.due(x, "gather, " + what, Shop.MISFIT, 2, x.gather(0, 0, 1, 1));
            A.due("as it was, " + what, 0, x.tell(1, 0, to));
            A.due("as it was, " + what, told(from), x.tell(0, 0, from));
        }
    }

    private static void shortsAndChars() {
        staysOut(2, 3);
        staysOut(3, 2);
    }

    private static void nothingIntoTruths() {
        for (int kind = 1; kind <= 7; kind++) {
            staysOut(kind, 0);
        }
    }

    private static void notIntoBytes() {
        staysOut(2, 1);
        staysOut(3, 1);
    }

    /** A number of a kind as others tell it, held by a hand and put into a row. */
    private static void becomes(int from, long bits, int to, long want) {
        TypeCases x = new TypeCases();
        String what = "kind " + from + " by " + bits + " as " + to;
        x.number(0, from, bits);
        A.due(what, want, x.value(0, to));
        x.hold(0, to, 1);
        x.put(0, 0, 0);
        A.due(what + ", put", want, x.tell(0, 0, to));
        x.hold(1, from, 1);
        x.put(0, 1, 0);
        A.due(what + ", told", want, x.tell(1, 0, to));
    }

    private static void becomesWhole(int from, long number, int... into) {
        for (int to : into) {
            becomes(from, number, to, number);
        }
    }

    private static void becomesFloat(int from, long number, float want) {
        becomes(from, number, 6, Shop.bits(want));
    }

    private static void becomesDouble(int from, long number, double want) {
        becomes(from, number, 7, Shop.bits(want));
    }

    private static void aroundZero() {
        for (int kind = 1; kind <= 5; kind++) {
            for (int number = kind == 3 ? 0 : -1; number <= 1; number++) {
                becomesWhole(kind, number, 5);
                becomesFloat(kind, number, number);
                becomesDouble(kind, number, number);
            }
        }
    }

    private static void endsOfBytes() {
        becomesWhole(1, -128, 2, 4, 5);
        becomesWhole(1, 127, 2, 4, 5);
        becomesFloat(1, -128, -128f);
        becomesFloat(1, 127, 127f);
        becomesDouble(1, -128, -128.0);
        becomesDouble(1, 127, 127.0);
    }

    private static void endsOfShorts() {
        becomesWhole(2, -32768, 4, 5);
        becomesWhole(2, 32767, 4, 5);
        becomesFloat(2, -32768, -32768f);
        becomesFloat(2, 32767, 32767f);
        becomesDouble(2, -32768, -32768.0);
        becomesDouble(2, 32767, 32767.0);
    }

    private static void endsOfChars() {
        becomesWhole(3, 0, 4, 5);
        becomesWhole(3, 65535, 4, 5);
        becomesFloat(3, 0, 0f);
        becomesFloat(3, 65535, 65535f);
        becomesDouble(3, 0, 0.0);
        becomesDouble(3, 65535, 65535.0);
    }

    private static void endsOfInts() {
        becomesWhole(4, Shop.LOW, 5);
        becomesWhole(4, Shop.HIGH, 5);
        becomesDouble(4, Shop.LOW, -0x1p31);
        becomesDouble(4, Shop.HIGH, 2147483647.0);
    }

    private static void endsOfFloats() {
        float[] ends = {0f, -0f, Float.MIN_VALUE, -Float.MIN_VALUE, 0x0.fffffep-126f, -0x0.fffffep-126f, 0x1p-126f,
            -0x1p-126f, Float.MAX_VALUE, -Float.MAX_VALUE};
        double[] want = {0.0, -0.0, 0x1p-149, -0x1p-149, 0x0.fffffep-126, -0x0.fffffep-126, 0x1p-126,
            -0x1p-126, 0x1.fffffep127, -0x1.fffffep127};
        for (int i = 0; i < ends.length; i++) {
            becomesDouble(6, Shop.bits(ends[i]), want[i]);
        }
        becomesDouble(6, 0x7f800000L, Double.POSITIVE_INFINITY);
        becomesDouble(6, 0xff800000L, Double.NEGATIVE_INFINITY);
        becomes(6, Shop.NO_FLOAT, 7, Shop.NO_DOUBLE);
    }

    private static void nearestFloatOfInts() {
        // From 2 to the power of 25 on every fourth number is a float.
        becomesFloat(4, (1 << 24) - 1, 16777215f);
        becomesFloat(4, (1 << 25) + 1, 0x1p25f);
        becomesFloat(4, (1 << 25) + 3, 33554436f);
        becomesFloat(4, -(1 << 25) - 1, -0x1p25f);
        becomesFloat(4, -(1 << 25) - 3, -33554436f);
        becomesFloat(4, Shop.HIGH, 0x1p31f);
        becomesFloat(4, Shop.LOW, -0x1p31f);
    }

    private static void nearestFloatOfLongs() {
        becomesFloat(5, Long.MAX_VALUE - (1L << 38), 0x0.ffffffp63f);
        becomesFloat(5, (1L << 62) + (1L << 38) - 1, 0x1p62f);
        becomesFloat(5, (1L << 62) + (1L << 38) + 1, 0x1.000002p62f);
        becomesFloat(5, -(1L << 62) - (1L << 38) + 1, -0x1p62f);
        becomesFloat(5, -(1L << 62) - (1L << 38) - 1, -0x1.000002p62f);
    }

    /** The nearest doubles of these stand midway between two floats. */
    private static void roundedOnce() {
        becomesFloat(5, (1L << 60) + (1L << 36) + 1, 0x1.000002p60f);
        becomesFloat(5, (1L << 60) + (3L << 36) - 1, 0x1.000002p60f);
        becomesFloat(5, -(1L << 60) - (1L << 36) - 1, -0x1.000002p60f);
        becomesFloat(5, -(1L << 60) - (3L << 36) + 1, -0x1.000002p60f);
    }

    private static void nearestDouble() {
        // From 2 to the power of 54 on every fourth number is a double.
        becomesDouble(5, (1L << 53) - 1, 9007199254740991.0);
        becomesDouble(5, (1L << 54) + 1, 0x1p54);
        becomesDouble(5, (1L << 54) + 3, 18014398509481988.0);
        becomesDouble(5, -(1L << 54) - 1, -0x1p54);
        becomesDouble(5, -(1L << 54) - 3, -18014398509481988.0);
        becomesDouble(5, Long.MAX_VALUE - 512, 0x0.fffffffffffff8p63);
    }

    private static void evenFloatOfInts() {
        becomesFloat(4, (1 << 24) + 1, 0x1p24f);
        becomesFloat(4, (1 << 24) + 3, 16777220f);
        becomesFloat(4, -(1 << 24) - 1, -0x1p24f);
        becomesFloat(4, -(1 << 24) - 3, -16777220f);
        becomesFloat(4, (1 << 25) - 1, 0x1p25f);
    }

    private static void evenFloatOfLongs() {
        becomesFloat(5, (1L << 62) + (1L << 38), 0x1p62f);
        becomesFloat(5, (1L << 62) + (3L << 38), 0x1.000004p62f);
        becomesFloat(5, -(1L << 62) - (1L << 38), -0x1p62f);
        becomesFloat(5, -(1L << 62) - (3L << 38), -0x1.000004p62f);
        becomesFloat(5, Long.MAX_VALUE - (1L << 38) + 1, 0x1p63f);
    }

    private static void evenDouble() {
        becomesDouble(5, (1L << 53) + 1, 0x1p53);
        becomesDouble(5, (1L << 53) + 3, 9007199254740996.0);
        becomesDouble(5, -(1L << 53) - 1, -0x1p53);
        becomesDouble(5, -(1L << 53) - 3, -9007199254740996.0);
        becomesDouble(5, (1L << 54) - 1, 0x1p54);
        becomesDouble(5, Long.MAX_VALUE - 511, 0x1p63);
    }

    private static void endsOfLongs() {
        becomesFloat(5, Long.MAX_VALUE, 0x1p63f);
        becomesFloat(5, Long.MIN_VALUE, -0x1p63f);
        becomesFloat(5, Long.MIN_VALUE + 1, -0x1p63f);
        becomesDouble(5, Long.MAX_VALUE, 0x1p63);
        becomesDouble(5, Long.MIN_VALUE, -0x1p63);
        becomesDouble(5, Long.MIN_VALUE + 1, -0x1p63);
        becomesFloat(5, 0, 0f);
        becomesDouble(5, 0, 0.0);
    }
}
