import java.util.Random;

/** Numbers that go into floats and doubles, against the casts of Java itself. */
public final class ConversionTest {
    private static final Answers ANSWERS = new Answers("ConversionTest");
    private static TypeCases x = new TypeCases();
    private static int calls = 0;

    public static void main(String[] args) {
        edges();
        Random random = new Random(20261116);
        for (int i = 0; i < 200000 && ANSWERS.wrong() < 20; i++) {
            whole(random.nextLong() >> random.nextInt(64));
            single(random.nextInt());
            single(random.nextInt(1 << 23) | (random.nextBoolean() ? 1 << 31 : 0));
            bits(random.nextInt(8), random.nextLong());
        }
        ANSWERS.end();
    }

    private static void edges() {
        // Around each power of two: ties to the even one, and just below and above the ties.
        for (int power = 0; power < 64; power++) {
            for (int lower = 0; lower <= power; lower++) {
                for (int off = -2; off <= 2; off++) {
                    long near = (1L << power) + (1L << lower) + off;
                    whole(near);
                    whole(-near);
                    whole(near + (1L << lower >> 1));
                    whole(-near - (1L << lower >> 1));
                }
            }
        }
        whole(0);
        whole(Long.MIN_VALUE);
        whole(Long.MAX_VALUE);
        int[] singles = {0, 1, 2, 0x7fffff, 0x800000, 0x7f7fffff, 0x7f800000, 0x7f800001, 0x7fc00000, 0x7fffffff};
        for (int bits : singles) {
            single(bits);
            single(bits | 0x80000000);
        }
        for (int power = 0; power < 23; power++) {
            single(1 << power);
            single((1 << power) - 1);
        }
    }

    private static TypeCases next() {
        calls += 4;
        if (calls > 512) {
            x = new TypeCases();
            calls = 4;
        }
        return x;
    }

    private static void whole(long number) {
        TypeCases one = next();
        one.number(0, 5, number);
        ANSWERS.due("long " + number, number, one.value(0, 5));
        ANSWERS.due("long as float " + number, Float.floatToIntBits((float) number), one.value(0, 6));
        ANSWERS.due("long as double " + number, Double.doubleToLongBits((double) number), one.value(0, 7));
        one = next();
        one.number(1, 4, number);
        int part = (int) number;
        ANSWERS.due("int as float " + part, Float.floatToIntBits((float) part), one.value(1, 6));
        ANSWERS.due("int as double " + part, Double.doubleToLongBits((double) part), one.value(1, 7));
    }

    private static void single(int bits) {
        TypeCases one = next();
        one.number(2, 6, bits);
        float number = Float.intBitsToFloat(bits);
        ANSWERS.due("float " + bits, Float.floatToIntBits(number), one.value(2, 6));
        ANSWERS.due("float as double " + bits, Double.doubleToLongBits((double) number), one.value(2, 7));
    }

    private static void bits(int kind, long bits) {
        TypeCases one = next();
        one.number(3, kind, bits);
        long[] told = {bits & 1, (byte) bits, (short) bits, (char) bits, (int) bits, bits,
            Float.floatToIntBits(Float.intBitsToFloat((int) bits)),
            Double.doubleToLongBits(Double.longBitsToDouble(bits))};
        ANSWERS.due("kind " + kind + " by bits " + bits, told[kind], one.value(3, kind));
    }
}
