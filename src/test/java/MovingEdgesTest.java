/** The edges that promises 8 to 11 name: what is taken, put, swapped, exchanged. */
public final class MovingEdgesTest {
    private static final Answers A = new Answers("MovingEdgesTest");
    private static final int NOTHING = Shop.NOTHING, MISFIT = Shop.MISFIT, PLACE = Shop.PLACE;

    public static void main(String[] args) {
        A.test("8: what stands at place i, the first and the last", MovingEdgesTest::takeEnds);
        A.test("8: a number of the ROW's KIND", MovingEdgesTest::takeKind);
        A.test("8: nothing, where nothing stands", MovingEdgesTest::takeNothing);
        A.test("8: UNKNOWN", MovingEdgesTest::takeUnknown);
        A.test("8: CAUSES: READ", MovingEdgesTest::takeFails);
        A.test("9: comes to place i, the first and the last", MovingEdgesTest::putEnds);
        A.test("9: it holds it still", MovingEdgesTest::putKeeps);
        A.test("9: one ROW at two places is one ROW", MovingEdgesTest::putRowTwice);
        A.test("9: UNKNOWN", MovingEdgesTest::putUnknown);
        A.test("9: CAUSES: WRITE", MovingEdgesTest::putFails);
        A.test("10: what stood there into the HAND", MovingEdgesTest::swapNumbers);
        A.test("10: nothing for a LETTER, a LETTER for nothing", MovingEdgesTest::swapNothing);
        A.test("10: a ROW for a ROW", MovingEdgesTest::swapRows);
        A.test("10: UNKNOWN", MovingEdgesTest::swapUnknown);
        A.test("10: CAUSES: READ, then WRITE", MovingEdgesTest::swapFails);
        A.test("11: place k of another one, the first and the last", MovingEdgesTest::exchangeEnds);
        A.test("11: or the same", MovingEdgesTest::exchangeWithinOne);
        A.test("11: or the same, and the same place", MovingEdgesTest::exchangeOnePlace);
        A.test("11: one ROW in two CASES", MovingEdgesTest::exchangeOneRowInTwoCases);
        A.test("11: nothing and a CAPITAL", MovingEdgesTest::exchangeNothing);
        A.test("11: UNKNOWN", MovingEdgesTest::exchangeUnknown);
        A.test("11: CAUSES: READ (the first, the second)", MovingEdgesTest::exchangeReads);
        A.test("11: then WRITE of the second one", MovingEdgesTest::exchangeSecondMisfits);
        A.test("11: then of the first one (the second one has its own again then)",
            MovingEdgesTest::exchangeFirstMisfits);
        A.end();
    }

    private static void takeEnds() {
        TypeCases x = new TypeCases();
        long[] numbers = new long[20];
        for (int i = 0; i < 20; i++) {
            numbers[i] = 100 + i;
        }
        Shop.row(x, 0, 4, numbers);
        A.due(x, "the first", 1, 0, x.take(0, 0, 0));
        A.due("the first", 100, x.value(0, 4));
        A.due(x, "the last", 1, 0, x.take(0, 0, 19));
        A.due("the last", 119, x.value(0, 4));
        A.due("it stands there still", 119, x.tell(0, 19, 4));
    }

    private static void takeKind() {
        for (int kind = 0; kind <= 7; kind++) {
            TypeCases x = new TypeCases();
            x.hold(0, kind, 1);
            x.take(0, 0, 0);
            A.due("kind " + kind, kind, x.kind(0));
        }
        TypeCases x = new TypeCases();
        x.number(0, 1, -1);
        x.hold(0, 5, 1);
        x.put(0, 0, 0);
        x.take(0, 0, 0);
        A.due("a byte among longs is a long", 5, x.kind(0));
        A.due("the same number", -1, x.value(0, 5));
        A.due("it goes into ints no more", MISFIT, x.value(0, 4));
    }

    private static void takeNothing() {
        TypeCases x = Shop.filled();
        int[][] empty = {{8, 2}, {9, 1}, {10, 1}};
        for (int[] at : empty) {
            x.number(0, 4, 1);
            A.due(x, "take from " + at[0], 1, 0, x.take(0, at[0], at[1]));
            A.due("nothing", 12, x.kind(0));
        }
    }

    private static void takeUnknown() {
        TypeCases x = Shop.filled();
        A.due("hand 4", Shop.UNKNOWN, x.take(4, 4, 0));
        A.due("hand -1", Shop.UNKNOWN, x.take(-1, 4, 0));
        A.due("case 12", Shop.UNKNOWN, x.take(0, 12, 0));
        A.due("case -1", Shop.UNKNOWN, x.take(0, -1, 0));
    }

    private static void takeFails() {
        TypeCases x = Shop.filled();
        A.due(x, "nothing", NOTHING, 1, x.take(0, 1, 0));
        A.due(x, "a letter", MISFIT, 2, x.take(0, 11, 0));
        A.due(x, "no place", PLACE, 3, x.take(0, 4, 3));
        A.due(x, "no place", PLACE, 3, x.take(0, 4, -1));
        A.due("the hand holds what it held", -3, x.value(0, 1));
    }

    private static void putEnds() {
        TypeCases x = new TypeCases();
        x.hold(0, 4, 20);
        x.number(0, 4, 7);
        A.due(x, "the first", 1, 0, x.put(0, 0, 0));
        A.due(x, "the last", 1, 0, x.put(0, 0, 19));
        for (int i = 0; i < 20; i++) {
            A.due("place " + i, i == 0 || i == 19 ? 7 : 0, x.tell(0, i, 4));
        }
    }

    private static void putKeeps() {
        TypeCases x = Shop.filled();
        x.put(0, 7, 0);
        A.due("a byte put as a double", 1, x.kind(0));
        A.due("a byte put as a double", -3, x.value(0, 1));
        x.put(1, 8, 0);
        A.due("a letter", 1, x.value(1, 8));
        x.put(2, 10, 1);
        A.due("a row", 9, x.kind(2));
        x.put(3, 8, 1);
        A.due("nothing", 12, x.kind(3));
    }

    private static void putRowTwice() {
        TypeCases x = Shop.filled();
        x.put(2, 10, 1);
        x.number(0, 3, 90);
        x.put(0, 3, 0);
        x.take(1, 10, 1);
        x.set(4, 1);
        A.due("changed in the case, it is changed in the line", 90, x.tell(4, 0, 3));
        A.due("the last line that is this row", 1, x.find(2, 10));
    }

    private static void putUnknown() {
        TypeCases x = Shop.filled();
        A.due("hand 4", Shop.UNKNOWN, x.put(4, 4, 0));
        A.due("hand -1", Shop.UNKNOWN, x.put(-1, 4, 0));
        A.due("case 12", Shop.UNKNOWN, x.put(0, 12, 0));
        A.due("case -1", Shop.UNKNOWN, x.put(0, -1, 0));
    }

    private static void putFails() {
        TypeCases x = Shop.filled();
        A.due(x, "into nothing", NOTHING, 1, x.put(3, 1, 3));
        A.due(x, "into a letter", MISFIT, 2, x.put(3, 11, 3));
        A.due(x, "nothing into numbers", MISFIT, 2, x.put(3, 4, 3));
        A.due(x, "no place", PLACE, 3, x.put(1, 4, 3));
        A.due(x, "a letter into numbers", MISFIT, 2, x.put(1, 4, 2));
        A.due("as it was", 42, x.tell(4, 2, 4));
    }

    private static void swapNumbers() {
        TypeCases x = Shop.filled();
        A.due(x, "the last", 1, 0, x.swap(0, 5, 2));
        A.due("what stood there, of the ROW's KIND", 5, x.kind(0));
        A.due("what stood there", -52, x.value(0, 5));
        A.due("what came there", -3, x.tell(5, 2, 5));
        A.due(x, "the first", 1, 0, x.swap(0, 5, 0));
        A.due("what stood there", -50, x.value(0, 5));
        A.due("what came there", -52, x.tell(5, 0, 5));
        A.due("between them", 51, x.tell(5, 1, 5));
    }

    private static void swapNothing() {
        TypeCases x = Shop.filled();
        A.due(x, "nothing for a letter", 1, 0, x.swap(3, 8, 0));
        A.due("the letter", 0, x.value(3, 8));
        x.take(2, 8, 0);
        A.due("nothing stands there", 12, x.kind(2));
        A.due(x, "a capital for nothing", 1, 0, x.swap(1, 9, 1));
        A.due("nothing in the hand", 12, x.kind(1));
        x.take(2, 9, 1);
        A.due("the capital stands there", 1, x.value(2, 8));
        A.due(x, "nothing for nothing", 1, 0, x.swap(1, 10, 1));
        A.due("nothing in the hand", 12, x.kind(1));
    }

    private static void swapRows() {
        TypeCases x = Shop.filled();
        A.due(x, "swap", 1, 0, x.swap(2, 10, 2));
        A.due("the line that stood there", 2, x.value(2, 9));
        x.lift(0, 3);
        A.due("the row of case 3 stands there", 2, x.find(0, 10));
    }

    private static void swapUnknown() {
        TypeCases x = Shop.filled();
        A.due("hand 4", Shop.UNKNOWN, x.swap(4, 4, 0));
        A.due("hand -1", Shop.UNKNOWN, x.swap(-1, 4, 0));
        A.due("case 12", Shop.UNKNOWN, x.swap(0, 12, 0));
        A.due("case -1", Shop.UNKNOWN, x.swap(0, -1, 0));
    }

    private static void swapFails() {
        TypeCases x = Shop.filled();
        A.due(x, "nothing", NOTHING, 1, x.swap(3, 1, 3));
        A.due(x, "a letter", MISFIT, 2, x.swap(3, 11, 3));
        A.due(x, "PLACE of READ, before MISFIT of WRITE", PLACE, 3, x.swap(3, 4, 3));
        A.due(x, "PLACE of READ, before MISFIT of WRITE", PLACE, 3, x.swap(1, 4, -1));
        A.due(x, "nothing into numbers", MISFIT, 2, x.swap(3, 4, 2));
        A.due(x, "a letter into numbers", MISFIT, 2, x.swap(1, 4, 2));
        A.due("the hand holds what it held", 1, x.value(1, 8));
        A.due("the place has what it had", 42, x.tell(4, 2, 4));
    }

    private static void exchangeEnds() {
        TypeCases x = new TypeCases();
        Shop.row(x, 0, 4, 1, 2, 3);
        Shop.row(x, 1, 4, 7, 8);
        A.due(x, "the first and the last", 1, 0, x.exchange(0, 0, 1, 1));
        A.due(x, "the last and the first", 1, 0, x.exchange(0, 2, 1, 0));
        A.due("what came to the first", 8, x.tell(0, 0, 4));
        A.due("between them", 2, x.tell(0, 1, 4));
        A.due("what came to the last", 7, x.tell(0, 2, 4));
        A.due("what came to the other's first", 3, x.tell(1, 0, 4));
        A.due("what came to the other's last", 1, x.tell(1, 1, 4));
    }

    private static void exchangeWithinOne() {
        TypeCases x = new TypeCases();
        Shop.row(x, 0, 7, 1, 2, 3);
        A.due(x, "the first and the last", 1, 0, x.exchange(0, 0, 0, 2));
        A.due("the first", 3, x.tell(0, 0, 7));
        A.due("between them", 2, x.tell(0, 1, 7));
        A.due("the last", 1, x.tell(0, 2, 7));
        x = Shop.filled();
        A.due(x, "a letter and nothing", 1, 0, x.exchange(8, 2, 8, 0));
        x.take(0, 8, 2);
        A.due("the letter", 0, x.value(0, 8));
        x.take(0, 8, 0);
        A.due("nothing", 12, x.kind(0));
    }

    private static void exchangeOnePlace() {
        TypeCases x = Shop.filled();
        for (int c = 2; c <= 10; c++) {
            A.due(x, "case " + c, 1, 0, x.exchange(c, 2, c, 2));
        }
        A.same("nothing is changed", Shop.seen(Shop.filled()), Shop.seen(x));
    }

    private static void exchangeOneRowInTwoCases() {
        TypeCases x = Shop.filled();
        x.set(4, 2);
        A.due(x, "exchange", 1, 0, x.exchange(3, 0, 4, 2));
        A.due("the first", 67, x.tell(3, 0, 3));
        A.due("the last", 65, x.tell(3, 2, 3));
        A.due("one place by two cases", 1, x.exchange(3, 1, 4, 1));
        A.due("one place by two cases", 66, x.tell(4, 1, 3));
    }

    private static void exchangeNothing() {
        TypeCases x = Shop.filled();
        A.due(x, "nothing of letters for a capital", 1, 0, x.exchange(8, 2, 9, 2));
        x.take(0, 8, 2);
        A.due("the capital", 3, x.value(0, 8));
        A.due("nothing among capitals", 2, x.find(3, 9));
        A.due(x, "a line for nothing among lines", 1, 0, x.exchange(10, 1, 10, 2));
        A.due("the last that is nothing", 2, x.find(3, 10));
        A.due(x, "nothing of lines for nothing of capitals", 1, 0, x.exchange(10, 2, 9, 1));
    }

    private static void exchangeUnknown() {
        TypeCases x = Shop.filled();
        A.due("the first, 12", Shop.UNKNOWN, x.exchange(12, 0, 4, 0));
        A.due("the first, -1", Shop.UNKNOWN, x.exchange(-1, 0, 4, 0));
        A.due("the second, 12", Shop.UNKNOWN, x.exchange(4, 0, 12, 0));
        A.due("the second, -1", Shop.UNKNOWN, x.exchange(4, 0, -1, 0));
    }

    private static void exchangeReads() {
        TypeCases x = Shop.filled();
        A.due(x, "nothing, then a letter", NOTHING, 1, x.exchange(1, 0, 11, 0));
        A.due(x, "a letter, then nothing", MISFIT, 2, x.exchange(11, 0, 1, 0));
        A.due(x, "no place, then nothing", PLACE, 3, x.exchange(4, 3, 1, 0));
        A.due(x, "then nothing", NOTHING, 1, x.exchange(4, 2, 1, 0));
        A.due(x, "then a letter", MISFIT, 2, x.exchange(4, 2, 11, 0));
        A.due(x, "then no place, though it would not fit", PLACE, 3, x.exchange(8, 2, 4, 3));
    }

    private static void exchangeSecondMisfits() {
        TypeCases x = Shop.filled();
        A.due(x, "a long to ints", MISFIT, 2, x.exchange(5, 0, 4, 0));
        A.due(x, "a letter to capitals", MISFIT, 2, x.exchange(8, 0, 9, 0));
        A.due(x, "nothing to ints", MISFIT, 2, x.exchange(8, 2, 4, 0));
        A.due(x, "an int to letters", MISFIT, 2, x.exchange(4, 0, 8, 2));
        A.due(x, "a line to letters", MISFIT, 2, x.exchange(10, 0, 8, 2));
        A.same("nothing is changed", Shop.seen(Shop.filled()), Shop.seen(x));
    }

    private static void exchangeFirstMisfits() {
        TypeCases x = Shop.filled();
        A.due(x, "an int to longs, a long to ints", MISFIT, 2, x.exchange(4, 0, 5, 0));
        A.due("the second one has its own again", -50, x.tell(5, 0, 5));
        A.due(x, "a short to floats, NO NUMBER to shorts", MISFIT, 2, x.exchange(2, 0, 6, 2));
        A.due("the second one has its own again", Shop.NO_FLOAT, x.tell(6, 2, 6));
        A.due(x, "a float to doubles, -0.0 to floats", MISFIT, 2, x.exchange(6, 0, 7, 1));
        A.due("the second one has its own again", Shop.bits(-0.0), x.tell(7, 1, 7));
        A.due(x, "a capital to letters, a letter to capitals", MISFIT, 2, x.exchange(9, 0, 8, 0));
        A.due(x, "nothing to letters, a letter to capitals", MISFIT, 2, x.exchange(9, 1, 8, 0));
        x.hold(1, 8, 1);
        A.due(x, "nothing to lines, a line to letters", MISFIT, 2, x.exchange(1, 0, 10, 0));
        x.hold(1, 12, 0);
        A.same("nothing is changed", Shop.seen(Shop.filled()), Shop.seen(x));
    }
}
