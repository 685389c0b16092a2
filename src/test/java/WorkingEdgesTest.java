/** The edges that promises 18 to 22 name: what is turned, ordered, spread, gathered, found. */
public final class WorkingEdgesTest {
    private static final Answers A = new Answers("WorkingEdgesTest");
    private static final int NOTHING = Shop.NOTHING, MISFIT = Shop.MISFIT, PLACE = Shop.PLACE;
    private static final long EVEN = 1L << 53;

    public static void main(String[] args) {
        A.test("18: turned round, the last one first: how many", WorkingEdgesTest::turnEachSize);
        A.test("18: turned round: 8, 9, 10", WorkingEdgesTest::turnPieces);
        A.test("18: turned round: no places", WorkingEdgesTest::turnNoPlaces);
        A.test("18: UNKNOWN", WorkingEdgesTest::turnUnknown);
        A.test("18: CAUSES: NOTHING, MISFIT", WorkingEdgesTest::turnFails);
        A.test("19: ordered, rising, as longs: the ends", WorkingEdgesTest::orderEndsOfLongs);
        A.test("19: ordered, rising, as longs: each KIND that goes into 5", WorkingEdgesTest::orderEachKindAsLongs);
        A.test("19: ordered, rising, as doubles: the ends", WorkingEdgesTest::orderEndsOfDoubles);
        A.test("19: ordered, rising, as doubles: each KIND that goes into 7", WorkingEdgesTest::orderEachKindAsDoubles);
        A.test("19: of like ones as they stood: longs told as doubles", WorkingEdgesTest::orderLikeLongs);
        A.test("19: -0.0 like 0.0", WorkingEdgesTest::orderZeros);
        A.test("19: NO NUMBER behind all", WorkingEdgesTest::orderNoNumbers);
        A.test("19: how many had one ahead of them that belongs behind them", WorkingEdgesTest::orderCounts);
        A.test("19: one place, twenty places", WorkingEdgesTest::orderSizes);
        A.test("19: UNKNOWN", WorkingEdgesTest::orderUnknown);
        A.test("19: OUTSIDE", WorkingEdgesTest::orderOutside);
        A.test("19: CAUSES: NOTHING", WorkingEdgesTest::orderNothing);
        A.test("19: CAUSES: MISFIT", WorkingEdgesTest::orderMisfits);
        A.test("19: of a ROW without places: 0", WorkingEdgesTest::orderNoPlaces);
        A.test("20: comes to the n places behind it", WorkingEdgesTest::spreadSome);
        A.test("20: the n places behind it, n 0: to none", WorkingEdgesTest::spreadToNone);
        A.test("20: until one is not there: to how many (failed() tells PLACE, if one was not there)",
            WorkingEdgesTest::spreadBeyond);
        A.test("20: a LETTER, a ROW, nothing", WorkingEdgesTest::spreadPieces);
        A.test("20: UNKNOWN", WorkingEdgesTest::spreadUnknown);
        A.test("20: OUTSIDE: n 0 .. 100", WorkingEdgesTest::spreadOutside);
        A.test("20: CAUSES: READ; none else", WorkingEdgesTest::spreadFails);
        A.test("20: CAUSES: READ, though n is 0", WorkingEdgesTest::spreadToNoneFails);
        A.test("21: n places come to another one from place 0 on", WorkingEdgesTest::gatherSome);
        A.test("21: or the same", WorkingEdgesTest::gatherWithinOne);
        A.test("21: n 0: none comes, none is READ or WRITTEN", WorkingEdgesTest::gatherNone);
        A.test("21: until one can not be READ: how many did (else failed() tells it)",
            WorkingEdgesTest::gatherUntilRead);
        A.test("21: until one can not be WRITTEN, PLACE: how many did", WorkingEdgesTest::gatherUntilPlace);
        A.test("21: until one can not be WRITTEN, MISFIT: how many did", WorkingEdgesTest::gatherUntilMisfit);
        A.test("21: UNKNOWN", WorkingEdgesTest::gatherUnknown);
        A.test("21: OUTSIDE: n 0 .. 100", WorkingEdgesTest::gatherOutside);
        A.test("21: CAUSES: that of the first one, if none did", WorkingEdgesTest::gatherFails);
        A.test("22: The last place", WorkingEdgesTest::findLast);
        A.test("22: a number of the ROW's own KIND", WorkingEdgesTest::findOwnKind);
        A.test("22: of the same BITS", WorkingEdgesTest::findSameBits);
        A.test("22: the same LETTER", WorkingEdgesTest::findSameLetter);
        A.test("22: the same ROW", WorkingEdgesTest::findSameRow);
        A.test("22: or nothing (in 8, 9, 10)", WorkingEdgesTest::findNothing);
        A.test("22: NONE", WorkingEdgesTest::findNone);
        A.test("22: UNKNOWN", WorkingEdgesTest::findUnknown);
        A.test("22: CAUSES: NOTHING, MISFIT (the CASE holds no ROW)", WorkingEdgesTest::findFails);
        A.end();
    }

    private static void stands(TypeCases x, String what, int c, int kind, long... numbers) {
        A.due(what + ", places", numbers.length, x.places(c));
        for (int i = 0; i < numbers.length; i++) {
            A.due(what + ", place " + i, numbers[i], x.tell(c, i, kind));
        }
    }

    /** The number of the letter at a place, NONE if nothing stands there; hand 3 is used. */
    private static long letterAt(TypeCases x, int c, int i) {
        x.take(3, c, i);
        return x.kind(3) == 12 ? Shop.NONE : x.value(3, 8);
    }

    /** start, start + step and so on. */
    private static long[] steps(int n, long start, long step) {
        long[] all = new long[n];
        for (int i = 0; i < n; i++) {
            all[i] = start + i * step;
        }
        return all;
    }

    private static void turnEachSize() {
        for (int n = 0; n <= 20; n++) {
            TypeCases x = new TypeCases();
            Shop.row(x, 0, 4, steps(n, 1, 1));
            A.due(x, "how many", n, 0, x.turn(0));
            stands(x, "turned", 0, 4, steps(n, n, -1));
            x.turn(0);
            stands(x, "turned again", 0, 4, steps(n, 1, 1));
        }
    }

    private static void turnPieces() {
        TypeCases x = Shop.filled();
        A.due(x, "letters", 3, 0, x.turn(8));
        A.due("nothing first", Shop.NONE, letterAt(x, 8, 0));
        A.due("between them", 1, letterAt(x, 8, 1));
        A.due("the first one last", 0, letterAt(x, 8, 2));
        A.due(x, "capitals", 3, 0, x.turn(9));
        A.due("the last one first", 3, letterAt(x, 9, 0));
        A.due("the first one last", 1, letterAt(x, 9, 2));
        A.due(x, "lines", 3, 0, x.turn(10));
        A.due("the row of case 3 last", 2, x.find(2, 10));
    }

    private static void turnNoPlaces() {
        for (int sort = 0; sort <= 10; sort++) {
            TypeCases x = new TypeCases();
            x.hold(0, sort, 0);
            A.due(x, "sort " + sort, 0, 0, x.turn(0));
        }
    }

    private static void turnUnknown() {
        TypeCases x = Shop.filled();
        for (int c : new int[] {-1, 12, Shop.LOW, Shop.HIGH}) {
            A.due("case " + c, Shop.UNKNOWN, x.turn(c));
        }
    }

    private static void turnFails() {
        TypeCases x = Shop.filled();
        A.due(x, "nothing", NOTHING, 1, x.turn(1));
        A.due(x, "a letter", MISFIT, 2, x.turn(11));
    }

    private static void ordered(int kind, int as, int count, long[] given, long... want) {
        TypeCases x = new TypeCases();
        Shop.row(x, 0, kind, given);
        A.due(x, "kind " + kind + " as " + as, count, 0, x.order(0, as));
        stands(x, "kind " + kind + " as " + as, 0, kind, want);
    }

    private static void orderEndsOfLongs() {
        long low = Long.MIN_VALUE;
        long high = Long.MAX_VALUE;
        ordered(5, 5, 3, new long[] {high, 0, low, -1}, low, -1, 0, high);
        ordered(5, 5, 1, new long[] {high, high - 1}, high - 1, high);
        ordered(5, 5, 1, new long[] {low + 1, low}, low, low + 1);
        // The distance of these two is more than a long can hold.
        ordered(5, 5, 0, new long[] {low, high}, low, high);
        ordered(5, 5, 1, new long[] {EVEN + 1, EVEN}, EVEN, EVEN + 1);
    }

    private static void orderEachKindAsLongs() {
        ordered(1, 5, 2, new long[] {127, -128, 0}, -128, 0, 127);
        ordered(2, 5, 2, new long[] {32767, -32768, 0}, -32768, 0, 32767);
        ordered(3, 5, 2, new long[] {65535, 0, 32768}, 0, 32768, 65535);
        ordered(4, 5, 2, new long[] {Shop.HIGH, Shop.LOW, 0}, Shop.LOW, 0, Shop.HIGH);
    }

    private static void orderEndsOfDoubles() {
        long up = Shop.bits(Double.POSITIVE_INFINITY);
        long down = Shop.bits(Double.NEGATIVE_INFINITY);
        long most = Shop.bits(Double.MAX_VALUE);
        long least = Shop.bits(-Double.MAX_VALUE);
        long small = Shop.bits(Double.MIN_VALUE);
        long below = Shop.bits(-Double.MIN_VALUE);
        ordered(7, 7, 6, new long[] {up, most, small, 0, below, least, down}, down, least, below, 0, small, most, up);
        ordered(7, 7, 1, new long[] {Shop.bits(-1.0), Shop.bits(-2.0)}, Shop.bits(-2.0), Shop.bits(-1.0));
    }

    private static void orderEachKindAsDoubles() {
        ordered(1, 7, 2, new long[] {127, -128, 0}, -128, 0, 127);
        ordered(2, 7, 2, new long[] {32767, -32768, 0}, -32768, 0, 32767);
        ordered(3, 7, 2, new long[] {65535, 0, 32768}, 0, 32768, 65535);
        ordered(4, 7, 2, new long[] {Shop.HIGH, Shop.LOW, 0}, Shop.LOW, 0, Shop.HIGH);
        ordered(4, 7, 1, new long[] {Shop.HIGH, Shop.HIGH - 1}, Shop.HIGH - 1, Shop.HIGH);
        ordered(5, 7, 2, new long[] {Long.MAX_VALUE, Long.MIN_VALUE, 0}, Long.MIN_VALUE, 0, Long.MAX_VALUE);
        long half = Shop.bits(0.5f);
        long third = Shop.bits(-0.3f);
        long small = Shop.bits(Float.MIN_VALUE);
        ordered(6, 7, 3, new long[] {half, small, 0, third}, third, 0, small, half);
    }

    private static void orderLikeLongs() {
        ordered(5, 7, 0, new long[] {EVEN + 1, EVEN}, EVEN + 1, EVEN);
        ordered(5, 7, 1, new long[] {EVEN + 1, EVEN, 3}, 3, EVEN + 1, EVEN);
        ordered(5, 7, 0, new long[] {Long.MAX_VALUE, Long.MAX_VALUE - 511}, Long.MAX_VALUE, Long.MAX_VALUE - 511);
        ordered(5, 7, 1, new long[] {Long.MAX_VALUE, Long.MAX_VALUE - 512}, Long.MAX_VALUE - 512, Long.MAX_VALUE);
        ordered(5, 7, 0, new long[] {Long.MIN_VALUE + 1, Long.MIN_VALUE}, Long.MIN_VALUE + 1, Long.MIN_VALUE);
    }

    private static void orderZeros() {
        long zero = Shop.bits(0.0);
        long minus = Shop.bits(-0.0);
        ordered(7, 7, 0, new long[] {zero, minus, zero}, zero, minus, zero);
        ordered(7, 7, 2, new long[] {Shop.bits(1.0), zero, minus}, zero, minus, Shop.bits(1.0));
        ordered(6, 7, 0, new long[] {0, Shop.LOW, 0, Shop.LOW}, 0, Shop.LOW, 0, Shop.LOW);
    }

    private static void orderNoNumbers() {
        long up = Shop.bits(Double.POSITIVE_INFINITY);
        ordered(7, 7, 1, new long[] {Shop.NO_DOUBLE, up}, up, Shop.NO_DOUBLE);
        ordered(7, 7, 2, new long[] {-1L, 0, 0x7ff0000000000001L, up}, 0, up, Shop.NO_DOUBLE, Shop.NO_DOUBLE);
        ordered(7, 7, 0, new long[] {up, Shop.NO_DOUBLE, Shop.NO_DOUBLE}, up, Shop.NO_DOUBLE, Shop.NO_DOUBLE);
        ordered(6, 7, 1, new long[] {0xffc00001L, 0x7f800000L}, 0x7f800000L, Shop.NO_FLOAT);
    }

    private static void orderCounts() {
        ordered(4, 5, 0, new long[] {1, 2, 2, 3}, 1, 2, 2, 3);
        ordered(4, 5, 0, new long[] {5, 5, 5}, 5, 5, 5);
        ordered(4, 5, 3, new long[] {4, 1, 2, 3}, 1, 2, 3, 4);
        ordered(4, 5, 1, new long[] {2, 3, 4, 1}, 1, 2, 3, 4);
        ordered(4, 5, 3, new long[] {4, 3, 2, 1}, 1, 2, 3, 4);
        // 3 stands behind 4, 4 behind none that is more, the second 3 behind both.
        ordered(4, 5, 2, new long[] {4, 3, 4, 3}, 3, 3, 4, 4);
    }

    private static void orderSizes() {
        ordered(4, 5, 0, new long[] {9}, 9);
        ordered(7, 7, 0, new long[] {Shop.NO_DOUBLE}, Shop.NO_DOUBLE);
        ordered(4, 5, 19, steps(20, 20, -1), steps(20, 1, 1));
        ordered(4, 7, 19, steps(20, 20, -1), steps(20, 1, 1));
        ordered(4, 5, 0, steps(20, 1, 1), steps(20, 1, 1));
    }

    private static void orderUnknown() {
        TypeCases x = Shop.filled();
        for (int c : new int[] {-1, 12, Shop.LOW, Shop.HIGH}) {
            A.due("as longs, case " + c, Shop.UNKNOWN, x.order(c, 5));
            A.due("as doubles, case " + c, Shop.UNKNOWN, x.order(c, 7));
        }
    }

    private static void orderOutside() {
        TypeCases x = Shop.filled();
        for (int kind : new int[] {-1, 0, 1, 2, 3, 4, 6, 8, 9, 12, Shop.LOW, Shop.HIGH}) {
            A.due("as " + kind, Shop.OUTSIDE, x.order(5, kind));
        }
        stands(x, "as it was", 5, 5, -50, 51, -52);
    }

    private static void orderNothing() {
        TypeCases x = Shop.filled();
        A.due(x, "as longs", NOTHING, 1, x.order(1, 5));
        A.due(x, "as doubles", NOTHING, 1, x.order(1, 7));
    }

    private static void orderMisfits() {
        TypeCases x = Shop.filled();
        for (int c : new int[] {0, 8, 9, 10, 11}) {
            A.due(x, "case " + c + " as longs", MISFIT, 2, x.order(c, 5));
            A.due(x, "case " + c + " as doubles", MISFIT, 2, x.order(c, 7));
        }
        A.due(x, "floats as longs", MISFIT, 2, x.order(6, 5));
        A.due(x, "doubles as longs", MISFIT, 2, x.order(7, 5));
        A.same("nothing is changed", Shop.seen(Shop.filled()), Shop.seen(x));
        for (int sort : new int[] {0, 8, 9, 10}) {
            x = new TypeCases();
            x.hold(0, sort, 1);
            A.due(x, "one place of sort " + sort, MISFIT, 2, x.order(0, 5));
            A.due(x, "one place of sort " + sort, MISFIT, 2, x.order(0, 7));
        }
    }

    private static void orderNoPlaces() {
        for (int sort = 0; sort <= 10; sort++) {
            TypeCases x = new TypeCases();
            x.hold(0, sort, 0);
            A.due(x, "it fails", NOTHING, 1, x.places(1));
            A.due(x, "sort " + sort + " as longs", 0, 0, x.order(0, 5));
            A.due(x, "it fails", NOTHING, 1, x.places(1));
            A.due(x, "sort " + sort + " as doubles", 0, 0, x.order(0, 7));
        }
    }

    private static void spreadSome() {
        TypeCases x = new TypeCases();
        Shop.row(x, 0, 4, 1, 2, 3, 4, 5);
        A.due(x, "two", 2, 0, x.spread(0, 1, 2));
        stands(x, "two", 0, 4, 1, 2, 2, 2, 5);
        A.due(x, "up to the last one", 4, 0, x.spread(0, 0, 4));
        stands(x, "up to the last one", 0, 4, 1, 1, 1, 1, 1);
    }

    private static void spreadToNone() {
        TypeCases x = Shop.filled();
        for (int c = 2; c <= 10; c++) {
            A.due(x, "from the first, case " + c, 0, 0, x.spread(c, 0, 0));
            A.due(x, "from the last, case " + c, 0, 0, x.spread(c, 2, 0));
        }
        A.same("nothing is changed", Shop.seen(Shop.filled()), Shop.seen(x));
    }

    private static void spreadBeyond() {
        TypeCases x = new TypeCases();
        Shop.row(x, 0, 4, 1, 2, 3);
        A.due(x, "from the last one", 0, 3, x.spread(0, 2, 1));
        stands(x, "from the last one", 0, 4, 1, 2, 3);
        A.due(x, "one too far", 1, 3, x.spread(0, 1, 2));
        stands(x, "one too far", 0, 4, 1, 2, 2);
        A.due(x, "a hundred", 2, 3, x.spread(0, 0, 100));
        stands(x, "a hundred", 0, 4, 1, 1, 1);
        x.hold(0, 4, 20);
        A.due(x, "all twenty", 19, 0, x.spread(0, 0, 19));
        A.due(x, "one more", 19, 3, x.spread(0, 0, 20));
    }

    private static void spreadPieces() {
        TypeCases x = Shop.filled();
        A.due(x, "nothing among capitals", 1, 0, x.spread(9, 1, 1));
        A.due("the last that is nothing", Shop.NONE, letterAt(x, 9, 2));
        A.due(x, "a letter", 2, 0, x.spread(8, 0, 2));
        A.due("the letter", 0, letterAt(x, 8, 2));
        A.due(x, "a row", 2, 3, x.spread(10, 0, 3));
        A.due("the same row", 2, x.find(2, 10));
    }

    private static void spreadUnknown() {
        TypeCases x = Shop.filled();
        for (int c : new int[] {-1, 12, Shop.LOW, Shop.HIGH}) {
            A.due("case " + c, Shop.UNKNOWN, x.spread(c, 0, 1));
        }
    }

    private static void spreadOutside() {
        TypeCases x = Shop.filled();
        for (int n : new int[] {-1, 101, Shop.LOW, Shop.HIGH}) {
            A.due("n " + n, Shop.OUTSIDE, x.spread(4, 0, n));
        }
        stands(x, "as it was", 4, 4, 40, 41, 42);
        A.due("n 0", 0, x.spread(4, 0, 0));
        A.due("n 100", 2, x.spread(4, 0, 100));
    }

    private static void spreadFails() {
        TypeCases x = Shop.filled();
        A.due(x, "nothing", NOTHING, 1, x.spread(1, 0, 1));
        A.due(x, "nothing, no place", NOTHING, 1, x.spread(1, -1, 1));
        A.due(x, "a letter", MISFIT, 2, x.spread(11, 0, 1));
        A.due(x, "a letter, no place", MISFIT, 2, x.spread(11, -1, 1));
        for (int i : new int[] {3, -1, 20, Shop.LOW, Shop.HIGH}) {
            A.due(x, "place " + i, PLACE, 3, x.spread(4, i, 1));
            A.due(x, "place " + i, PLACE, 3, x.spread(4, i, 100));
        }
        stands(x, "as it was", 4, 4, 40, 41, 42);
    }

    private static void spreadToNoneFails() {
        TypeCases x = Shop.filled();
        A.due(x, "nothing", NOTHING, 1, x.spread(1, 0, 0));
        A.due(x, "a letter", MISFIT, 2, x.spread(11, 0, 0));
        A.due(x, "no place", PLACE, 3, x.spread(4, 3, 0));
        x.hold(1, 4, 0);
        A.due(x, "no places", PLACE, 3, x.spread(1, 0, 0));
    }

    private static void gatherSome() {
        TypeCases x = Shop.filled();
        A.due(x, "the last two", 2, 0, x.gather(4, 1, 2, 5));
        stands(x, "the last two", 5, 5, 41, 42, -52);
        stands(x, "they stand there still", 4, 4, 40, 41, 42);
        A.due(x, "all", 3, 0, x.gather(2, 0, 3, 4));
        stands(x, "all", 4, 4, -5, 6, -5);
        A.due(x, "capitals and nothing to letters", 3, 0, x.gather(9, 0, 3, 8));
        A.due("the first", 1, letterAt(x, 8, 0));
        A.due("nothing", Shop.NONE, letterAt(x, 8, 1));
        A.due("the last", 3, letterAt(x, 8, 2));
        x.hold(1, 10, 1);
        A.due(x, "a row", 1, 0, x.gather(10, 0, 1, 1));
        A.due("the same row", 0, x.find(2, 1));
    }

    private static void gatherWithinOne() {
        TypeCases x = Shop.filled();
        A.due(x, "onto itself", 3, 0, x.gather(4, 0, 3, 4));
        stands(x, "onto itself", 4, 4, 40, 41, 42);
        A.due(x, "one step ahead", 2, 0, x.gather(4, 1, 2, 4));
        stands(x, "one step ahead", 4, 4, 41, 42, 42);
        A.due(x, "the last one to the first place", 1, 3, x.gather(5, 2, 3, 5));
        stands(x, "the last one to the first place", 5, 5, -52, 51, -52);
        x.set(1, 2);
        A.due(x, "one ROW in two CASES", 2, 0, x.gather(3, 1, 2, 1));
        stands(x, "one ROW in two CASES", 3, 3, 66, 67, 67);
    }

    private static void gatherNone() {
        int[][] calls = {{4, 0, 5}, {4, 3, 5}, {4, -1, 5}, {1, 0, 4}, {4, 0, 1}, {11, 0, 4}, {4, 0, 11}, {1, -1, 1},
            {5, 0, 4}, {8, 2, 4}, {4, Shop.LOW, 4}, {4, Shop.HIGH, 4}};
        TypeCases x = Shop.filled();
        for (int[] call : calls) {
            A.due(x, "it fails", MISFIT, 2, x.places(11));
            String what = "from " + call[0] + ", place " + call[1] + ", to " + call[2];
            A.due(x, what, 0, 0, x.gather(call[0], call[1], 0, call[2]));
        }
        A.same("nothing is changed", Shop.seen(Shop.filled()), Shop.seen(x));
    }

    private static void gatherUntilRead() {
        TypeCases x = Shop.filled();
        A.due(x, "one too many", 3, 3, x.gather(4, 0, 4, 7));
        stands(x, "one too many", 7, 7, Shop.bits(40.0), Shop.bits(41.0), Shop.bits(42.0));
        A.due(x, "a hundred from the last one on", 1, 3, x.gather(4, 2, 100, 5));
        stands(x, "a hundred from the last one on", 5, 5, 42, 51, -52);
    }

    private static void gatherUntilPlace() {
        TypeCases x = Shop.filled();
        x.hold(1, 5, 2);
        A.due(x, "two of three", 2, 3, x.gather(4, 0, 3, 1));
        stands(x, "two of three", 1, 5, 40, 41);
        A.due(x, "two of two", 2, 0, x.gather(4, 1, 2, 1));
        stands(x, "two of two", 1, 5, 41, 42);
        x.hold(1, 4, 20);
        x.hold(2, 4, 20);
        A.due(x, "twenty", 20, 0, x.gather(1, 0, 20, 2));
        A.due(x, "twenty of a hundred", 20, 3, x.gather(1, 0, 100, 2));
    }

    private static void gatherUntilMisfit() {
        TypeCases x = Shop.filled();
        x.hold(1, 9, 3);
        x.hold(2, 8, 3);
        Shop.letters(x, 2, 3, 0, 1);
        A.due(x, "a letter among capitals", 1, 2, x.gather(2, 0, 3, 1));
        A.due("the capital ahead of it", 3, letterAt(x, 1, 0));
        A.due("none in its place", Shop.NONE, letterAt(x, 1, 1));
        A.due("none behind it", Shop.NONE, letterAt(x, 1, 2));
        x.hold(1, 9, 1);
        A.due(x, "PLACE, before MISFIT", 1, 3, x.gather(2, 0, 3, 1));
    }

    private static void gatherUnknown() {
        TypeCases x = Shop.filled();
        for (int c : new int[] {-1, 12, Shop.LOW, Shop.HIGH}) {
            for (int n = 0; n <= 1; n++) {
                A.due("from " + c, Shop.UNKNOWN, x.gather(c, 0, n, 4));
                A.due("to " + c, Shop.UNKNOWN, x.gather(4, 0, n, c));
            }
        }
    }

    private static void gatherOutside() {
        TypeCases x = Shop.filled();
        for (int n : new int[] {-1, 101, Shop.LOW, Shop.HIGH}) {
            A.due("n " + n, Shop.OUTSIDE, x.gather(4, 0, n, 5));
        }
        stands(x, "as it was", 5, 5, -50, 51, -52);
        A.due("n 0", 0, x.gather(4, 0, 0, 5));
        A.due("n 100", 3, x.gather(4, 0, 100, 5));
    }

    private static void gatherFails() {
        TypeCases x = Shop.filled();
        for (int n : new int[] {1, 3, 100}) {
            A.due(x, "from nothing", NOTHING, 1, x.gather(1, 0, n, 4));
            A.due(x, "to nothing", NOTHING, 1, x.gather(4, 0, n, 1));
            A.due(x, "from a letter", MISFIT, 2, x.gather(11, 0, n, 4));
            A.due(x, "to a letter", MISFIT, 2, x.gather(4, 0, n, 11));
            A.due(x, "from no place", PLACE, 3, x.gather(4, 3, n, 5));
            A.due(x, "from place -1, though 0 is there", PLACE, 3, x.gather(4, -1, n, 5));
            A.due(x, "from the highest int", PLACE, 3, x.gather(4, Shop.HIGH, n, 5));
            A.due(x, "a long to ints", MISFIT, 2, x.gather(5, 0, n, 4));
            A.due(x, "nothing to ints", MISFIT, 2, x.gather(8, 2, n, 4));
            A.due(x, "a letter to capitals, though one behind it fits", MISFIT, 2, x.gather(8, 0, n, 9));
        }
        A.same("nothing is changed", Shop.seen(Shop.filled()), Shop.seen(x));
        x = Shop.filled();
        x.hold(1, 5, 0);
        A.due(x, "to no places", PLACE, 3, x.gather(4, 0, 1, 1));
    }

    private static void findLast() {
        TypeCases x = new TypeCases();
        x.hold(0, 4, 20);
        x.number(0, 4, 0);
        A.due(x, "it stands at all", 19, 0, x.find(0, 0));
        x.number(1, 4, 7);
        x.put(1, 0, 0);
        A.due(x, "it stands at the first alone", 0, 0, x.find(1, 0));
        x.put(1, 0, 5);
        A.due(x, "and at another", 5, 0, x.find(1, 0));
        x.put(1, 0, 19);
        A.due(x, "the other one stands at the last but one", 18, 0, x.find(0, 0));
    }

    private static void findOwnKind() {
        for (int kind = 0; kind <= 7; kind++) {
            for (int other = 0; other <= 7; other++) {
                TypeCases x = new TypeCases();
                x.hold(0, kind, 2);
                x.number(0, other, 0);
                A.due(x, other + " among " + kind, kind == other ? 1 : -1, 0, x.find(0, 0));
            }
        }
    }

    private static void findSameBits() {
        TypeCases x = new TypeCases();
        Shop.row(x, 0, 7, Shop.bits(-0.0), Shop.NO_DOUBLE, 0, 1);
        x.number(0, 7, Shop.bits(-0.0));
        A.due("-0.0", 0, x.find(0, 0));
        x.number(0, 7, Shop.bits(0.0));
        A.due("0.0", 2, x.find(0, 0));
        x.number(0, 7, 0xfff0000000000001L);
        A.due("NO NUMBER", 1, x.find(0, 0));
        Shop.row(x, 1, 6, Shop.bits(-0.0f), Shop.NO_FLOAT, 0);
        x.number(0, 6, Shop.bits(-0.0f));
        A.due("-0.0f", 0, x.find(0, 1));
        x.number(0, 6, -1);
        A.due("NO NUMBER of floats", 1, x.find(0, 1));
        Shop.row(x, 2, 3, 65535, 0);
        x.number(0, 3, -1);
        A.due("a char by more bits", 0, x.find(0, 2));
        Shop.row(x, 3, 5, 1L << 32, 0);
        x.number(0, 5, 1L << 32);
        A.due("a long by its higher bits", 0, x.find(0, 3));
    }

    private static void findSameLetter() {
        TypeCases x = Shop.filled();
        A.due(x, "among letters", 1, 0, x.find(1, 8));
        A.due(x, "among capitals", 0, 0, x.find(1, 9));
        x.letter(9, true);
        x.give(0, 4);
        A.due(x, "one of the same width is another", -1, 0, x.find(0, 8));
    }

    private static void findSameRow() {
        TypeCases x = Shop.filled();
        A.due(x, "the row", 0, 0, x.find(2, 10));
        Shop.row(x, 1, 3, 65, 66, 67);
        x.lift(0, 1);
        A.due(x, "one of the same chars is another", -1, 0, x.find(0, 10));
        x.turn(3);
        A.due(x, "the same row, turned", 0, 0, x.find(2, 10));
    }

    private static void findNothing() {
        TypeCases x = Shop.filled();
        A.due(x, "in letters", 2, 0, x.find(3, 8));
        A.due(x, "in capitals", 1, 0, x.find(3, 9));
        A.due(x, "in lines", 1, 0, x.find(3, 10));
        for (int c : new int[] {0, 2, 3, 4, 5, 6, 7}) {
            A.due(x, "not in numbers", -1, 0, x.find(3, c));
        }
    }

    private static void findNone() {
        TypeCases x = Shop.filled();
        A.due(x, "a number among others", -1, 0, x.find(0, 2));
        for (int c = 8; c <= 10; c++) {
            A.due(x, "a number among letters, lines", -1, 0, x.find(0, c));
        }
        for (int c = 2; c <= 7; c++) {
            A.due(x, "a letter among numbers", -1, 0, x.find(1, c));
            A.due(x, "a row among numbers", -1, 0, x.find(2, c));
        }
        A.due(x, "a letter among lines", -1, 0, x.find(1, 10));
        A.due(x, "a row among letters", -1, 0, x.find(2, 8));
        for (int sort = 0; sort <= 10; sort++) {
            x.hold(1, sort, 0);
            for (int h = 0; h < 4; h++) {
                A.due(x, "no places, sort " + sort, -1, 0, x.find(h, 1));
            }
        }
    }

    private static void findUnknown() {
        TypeCases x = Shop.filled();
        for (int h : new int[] {-1, 4, Shop.LOW, Shop.HIGH}) {
            A.due("hand " + h, Shop.UNKNOWN, x.find(h, 4));
        }
        for (int c : new int[] {-1, 12, Shop.LOW, Shop.HIGH}) {
            A.due("case " + c, Shop.UNKNOWN, x.find(0, c));
        }
    }

    private static void findFails() {
        TypeCases x = Shop.filled();
        for (int h = 0; h < 4; h++) {
            A.due(x, "nothing", NOTHING, 1, x.find(h, 1));
            A.due(x, "a letter", MISFIT, 2, x.find(h, 11));
        }
        x.give(0, 2);
        A.due(x, "that letter itself", MISFIT, 2, x.find(0, 11));
    }
}
