/** The edges that the term BITS names: which bits of a number are looked at, and how it is told. */
public final class BitsEdgesTest {
    private static final Answers A = new Answers("BitsEdgesTest");

    public static void main(String[] args) {
        A.test("its lowest 1 bit", BitsEdgesTest::lowestOne);
        A.test("its lowest 8 bits", BitsEdgesTest::lowestEight);
        A.test("its lowest 16 bits, of shorts", BitsEdgesTest::lowestSixteenOfShorts);
        A.test("its lowest 16 bits, of chars", BitsEdgesTest::lowestSixteenOfChars);
        A.test("its lowest 32 bits", BitsEdgesTest::lowestThirtyTwo);
        A.test("its lowest 64 bits", BitsEdgesTest::allSixtyFour);
        A.test("of 6 those of the float (as an int)", BitsEdgesTest::bitsOfFloats);
        A.test("of 7 those of the double", BitsEdgesTest::bitsOfDoubles);
        A.test("NO NUMBER by 0x7fc00000, whichever bits of one were given", BitsEdgesTest::noFloat);
        A.test("NO NUMBER by 0x7ff8000000000000, whichever bits of one were given", BitsEdgesTest::noDouble);
        A.test("the last ones that are numbers still, of floats", BitsEdgesTest::lastFloats);
        A.test("the last ones that are numbers still, of doubles", BitsEdgesTest::lastDoubles);
        A.test("NO NUMBER of 6 is NO NUMBER of 7", BitsEdgesTest::noFloatAsDouble);
        A.test("NO NUMBER stands in a ROW by the same BITS", BitsEdgesTest::noNumberInRows);
        A.test("Told are truths as 0, 1", BitsEdgesTest::truthsTold);
        A.test("Told are chars from 0 on", BitsEdgesTest::charsTold);
        A.test("Told are others with their signs", BitsEdgesTest::signsTold);
        A.test("Told are 6 and 7 by BITS", BitsEdgesTest::floatsTold);
        A.end();
    }

    /** Told by the hand that holds it, by the row it was put into, and by a hand that took it from there. */
    private static void told(int kind, long bits, long want) {
        TypeCases x = new TypeCases();
        String what = "kind " + kind + " by " + Long.toHexString(bits);
        A.due(what, 1, x.number(0, kind, bits));
        A.due(what + ", its kind", kind, x.kind(0));
        A.due(what + ", held", want, x.value(0, kind));
        x.hold(0, kind, 2);
        x.put(0, 0, 1);
        A.due(what + ", put", want, x.tell(0, 1, kind));
        x.take(1, 0, 1);
        A.due(what + ", taken", want, x.value(1, kind));
        A.due(what + ", beside it", 0, x.tell(0, 0, kind));
    }

    private static void lowestOne() {
        told(0, 0, 0);
        told(0, 1, 1);
        told(0, 2, 0);
        told(0, 3, 1);
        told(0, -1, 1);
        told(0, -2, 0);
        told(0, Long.MIN_VALUE, 0);
        told(0, Long.MAX_VALUE, 1);
    }

    private static void lowestEight() {
        told(1, 0x7f, 127);
        told(1, 0x80, -128);
        told(1, 0xff, -1);
        told(1, 0x100, 0);
        told(1, 0x17f, 127);
        told(1, -129, 127);
        told(1, Long.MIN_VALUE, 0);
    }

    private static void lowestSixteenOfShorts() {
        told(2, 0x7fff, 32767);
        told(2, 0x8000, -32768);
        told(2, 0xffff, -1);
        told(2, 0x10000, 0);
        told(2, 0x17fff, 32767);
        told(2, -32769, 32767);
        told(2, Long.MIN_VALUE, 0);
    }

    private static void lowestSixteenOfChars() {
        told(3, 0x7fff, 32767);
        told(3, 0x8000, 32768);
        told(3, 0xffff, 65535);
        told(3, 0x10000, 0);
        told(3, 0x1ffff, 65535);
        told(3, -65536, 0);
        told(3, Long.MIN_VALUE, 0);
    }

    private static void lowestThirtyTwo() {
        told(4, 0x7fffffffL, 2147483647);
        told(4, 0x80000000L, -2147483648);
        told(4, 0xffffffffL, -1);
        told(4, 0x100000000L, 0);
        told(4, 0x17fffffffL, 2147483647);
        told(4, -2147483649L, 2147483647);
        told(4, Long.MIN_VALUE, 0);
    }

    private static void allSixtyFour() {
        told(5, Long.MAX_VALUE, Long.MAX_VALUE);
        told(5, Long.MIN_VALUE, Long.MIN_VALUE);
        told(5, -1, -1);
        told(5, 0x100000000L, 0x100000000L);
    }

    private static void bitsOfFloats() {
        told(6, 0x3f800000L, 0x3f800000L);
        told(6, 0x100000000L, 0);
        told(6, 0x7ff8000000000001L, 1);
        told(6, 0x100000000L | 0x3f800000L, 0x3f800000L);
        // Beyond its 32 bits nothing makes a float NO NUMBER.
        told(6, 0xfff800003f800000L, 0x3f800000L);
    }

    private static void bitsOfDoubles() {
        told(7, 1, 1);
        told(7, 0x7fc00000L, 0x7fc00000L);
        told(7, 0x3ff0000000000000L, 0x3ff0000000000000L);
        told(7, 0xbff0000000000000L, 0xbff0000000000000L);
    }

    private static void noFloat() {
        long[] given = {0x7f800001L, 0x7fbfffffL, 0x7fc00000L, 0x7fc00001L, 0x7fffffffL, 0xff800001L, 0xffc00000L,
            0xffffffffL, -1L, 0x17f800001L, 0x7fffffff7fc12345L};
        for (long bits : given) {
            told(6, bits, 0x7fc00000L);
        }
    }

    private static void noDouble() {
        long[] given = {0x7ff0000000000001L, 0x7ff7ffffffffffffL, 0x7ff8000000000000L, 0x7ff8000000000001L,
            0x7fffffffffffffffL, 0xfff0000000000001L, 0xfff8000000000000L, 0xffffffffffffffffL, 0x7ff0000100000000L};
        for (long bits : given) {
            told(7, bits, 0x7ff8000000000000L);
        }
    }

    private static void lastFloats() {
        told(6, 0x7f800000L, 0x7f800000L);
        told(6, 0x7f7fffffL, 0x7f7fffffL);
        told(6, 0xff800000L, (int) 0xff800000L);
        told(6, 0xff7fffffL, (int) 0xff7fffffL);
    }

    private static void lastDoubles() {
        told(7, 0x7ff0000000000000L, 0x7ff0000000000000L);
        told(7, 0x7fefffffffffffffL, 0x7fefffffffffffffL);
        told(7, 0xfff0000000000000L, 0xfff0000000000000L);
        told(7, 0xffefffffffffffffL, 0xffefffffffffffffL);
    }

    private static void noFloatAsDouble() {
        for (long bits : new long[] {0x7f800001L, 0x7fc00000L, 0xffffffffL}) {
            TypeCases x = new TypeCases();
            x.number(0, 6, bits);
            A.due("held", Shop.NO_DOUBLE, x.value(0, 7));
            x.hold(0, 7, 1);
            x.put(0, 0, 0);
            A.due("put", Shop.NO_DOUBLE, x.tell(0, 0, 7));
            x.hold(1, 6, 1);
            x.put(0, 1, 0);
            A.due("told", Shop.NO_DOUBLE, x.tell(1, 0, 7));
        }
    }

    private static void noNumberInRows() {
        TypeCases x = new TypeCases();
        Shop.row(x, 0, 6, 0x7f800001L);
        x.number(0, 6, 0xffffffffL);
        A.due("a float", 0, x.find(0, 0));
        Shop.row(x, 1, 7, 0x7ff0000000000001L);
        x.number(0, 7, -1L);
        A.due("a double", 0, x.find(0, 1));
        x.number(0, 6, 0xff800001L);
        x.put(0, 1, 0);
        x.number(0, 7, 0xfff0000000000001L);
        A.due("a float among doubles", 0, x.find(0, 1));
    }

    private static void truthsTold() {
        TypeCases x = new TypeCases();
        Shop.row(x, 0, 0, 0, 1, -1);
        A.due("false", 0, x.tell(0, 0, 0));
        A.due("true", 1, x.tell(0, 1, 0));
        A.due("true by all bits", 1, x.tell(0, 2, 0));
    }

    private static void charsTold() {
        TypeCases x = new TypeCases();
        Shop.row(x, 0, 3, 0, 0x8000, -1);
        A.due("the first", 0, x.tell(0, 0, 3));
        A.due("as a char", 32768, x.tell(0, 1, 3));
        A.due("as an int", 32768, x.tell(0, 1, 4));
        A.due("the last", 65535, x.tell(0, 2, 3));
        A.due("the last as a long", 65535, x.tell(0, 2, 5));
    }

    private static void signsTold() {
        long[] lowest = {0, -128, -32768, 0, -2147483648L, Long.MIN_VALUE};
        for (int kind : new int[] {1, 2, 4, 5}) {
            told(kind, lowest[kind], lowest[kind]);
            told(kind, -1, -1);
            told(kind, -1 - lowest[kind], -1 - lowest[kind]);
        }
    }

    private static void floatsTold() {
        told(6, Shop.bits(-0.0f), -2147483648L);
        told(6, Shop.bits(-1.0f), -1082130432L);
        told(6, Shop.bits(1.0f), 1065353216L);
        told(7, Shop.bits(-0.0), Long.MIN_VALUE);
        told(7, Shop.bits(-1.0), -4616189618054758400L);
        told(7, Shop.bits(1.0), 4607182418800017408L);
    }
}
