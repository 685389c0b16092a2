/** The edges of CASES, ROWS, LETTERS and HANDS: the first, the last, and the one beyond each end. */
public final class BoundsEdgesTest {
    private static final Answers A = new Answers("BoundsEdgesTest");

    public static void main(String[] args) {
        A.test("CASES 0 .. 11: the first one", () -> eachCallOfACase(0));
        A.test("CASES 0 .. 11: the last one", () -> eachCallOfACase(11));
        A.test("no such CASE: below the first one", () -> noSuchCase(-1, Shop.LOW));
        A.test("no such CASE: behind the last one", () -> noSuchCase(12, Shop.HIGH));
        A.test("CASES 0 .. 11: each holds its own", BoundsEdgesTest::twelveCases);
        A.test("CASES hold nothing at first", BoundsEdgesTest::casesAtFirst);
        A.test("CASES hold 11 a LETTER itself", BoundsEdgesTest::letterItself);
        A.test("ROWS have 0 .. 20 places: none", () -> rowsOf(0));
        A.test("ROWS have 0 .. 20 places: one", () -> rowsOf(1));
        A.test("ROWS have 0 .. 20 places: twenty", () -> rowsOf(20));
        A.test("ROWS have 0 .. 20 places: fewer than none", () -> noRowsOf(-1, Shop.LOW));
        A.test("ROWS have 0 .. 20 places: more than twenty", () -> noRowsOf(21, Shop.HIGH));
        A.test("places at first 0, false", BoundsEdgesTest::numbersAtFirst);
        A.test("places at first nothing", BoundsEdgesTest::nothingAtFirst);
        A.test("the first place of twenty", () -> eachCallOfAPlace(0));
        A.test("the last place of twenty", () -> eachCallOfAPlace(19));
        A.test("PLACE: there is no such one, below the first one", () -> noSuchPlace(20, -1, Shop.LOW));
        A.test("PLACE: there is no such one, behind the last one", () -> noSuchPlace(20, 20, Shop.HIGH));
        A.test("PLACE: there is no such one in a ROW without places", () -> noSuchPlace(0, 0, -1, 1));
        A.test("LETTERS 0, 1, .. (40 at most)", BoundsEdgesTest::fortyLetters);
        A.test("no such LETTER: below the first one", BoundsEdgesTest::belowTheLetters);
        A.test("no such LETTER: behind the last one", BoundsEdgesTest::behindTheLetters);
        A.test("WIDTH 0 .. 10000: both ends", BoundsEdgesTest::endsOfWidth);
        A.test("WIDTH 0 .. 10000: beyond both ends", BoundsEdgesTest::beyondWidth);
        A.test("CAPITALS weigh 3 times their WIDTH and 5", BoundsEdgesTest::capitalsWeigh);
        A.test("others weigh their WIDTH", BoundsEdgesTest::othersWeigh);
        A.test("HANDS 0 .. 3: the first one", () -> eachCallOfAHand(0));
        A.test("HANDS 0 .. 3: the last one", () -> eachCallOfAHand(3));
        A.test("no such HAND: below the first one", () -> noSuchHand(-1, Shop.LOW));
        A.test("no such HAND: behind the last one", () -> noSuchHand(4, Shop.HIGH));
        A.test("HANDS 0 .. 3: each holds its own", BoundsEdgesTest::fourHands);
        A.test("HANDS hold nothing at first", BoundsEdgesTest::handsAtFirst);
        A.test("HANDS hold a ROW (of what KIND so ever)", BoundsEdgesTest::anyRowInHand);
        A.end();
    }

    /** Cases 0, 4 and 11 hold the ints 8, 7; hand 0 holds the int 7, hand 1 letter 0, 2 and 3 nothing. */
    private static TypeCases rows() {
        TypeCases x = new TypeCases();
        Shop.row(x, 0, 4, 8, 7);
        Shop.row(x, 4, 4, 8, 7);
        Shop.row(x, 11, 4, 8, 7);
        x.letter(7, false);
        x.number(0, 4, 7);
        x.give(1, 0);
        return x;
    }

    private static final String[] OF_A_CASE_TOLD = {"hold a row", "hold nothing", "set", "lift", "take", "put", "swap",
        "exchange, the first", "exchange, the second", "tell", "places", "sort", "turn", "order", "spread",
        "gather, from", "gather, to", "find"};
    private static final Shop.With[] OF_A_CASE = {(x, c) -> x.hold(c, 4, 1), (x, c) -> x.hold(c, 12, 0),
        (x, c) -> x.set(c, 1), (x, c) -> x.lift(2, c), (x, c) -> x.take(2, c, 0), (x, c) -> x.put(0, c, 0),
        (x, c) -> x.swap(0, c, 0), (x, c) -> x.exchange(c, 0, 4, 1), (x, c) -> x.exchange(4, 1, c, 0),
        (x, c) -> x.tell(c, 0, 5), (x, c) -> x.places(c), (x, c) -> x.sort(c), (x, c) -> x.turn(c),
        (x, c) -> x.order(c, 5), (x, c) -> x.spread(c, 0, 1), (x, c) -> x.gather(c, 0, 1, 4),
        (x, c) -> x.gather(4, 0, 1, c), (x, c) -> x.find(0, c)};
    private static final long[] OF_A_CASE_DUE = {1, 1, 1, 1, 1, 1, 1, 1, 1, 8, 2, 4, 2, 1, 1, 1, 1, 1};

    private static void eachCallOfACase(int c) {
        for (int i = 0; i < OF_A_CASE.length; i++) {
            A.due(OF_A_CASE_TOLD[i] + ", case " + c, OF_A_CASE_DUE[i], OF_A_CASE[i].on(rows(), c));
        }
    }

    private static void noSuchCase(int... none) {
        for (int i = 0; i < OF_A_CASE.length; i++) {
            for (int c : none) {
                A.due(OF_A_CASE_TOLD[i] + ", case " + c, Shop.UNKNOWN, OF_A_CASE[i].on(rows(), c));
            }
        }
    }

    private static void twelveCases() {
        TypeCases x = new TypeCases();
        for (int c = 0; c < 12; c++) {
            x.hold(c, c % 11, c + 1);
        }
        for (int c = 0; c < 12; c++) {
            A.due("sort " + c, c % 11, x.sort(c));
            A.due("places " + c, c + 1, x.places(c));
        }
    }

    private static void casesAtFirst() {
        TypeCases x = new TypeCases();
        for (int c = 0; c < 12; c++) {
            A.due("sort " + c, 12, x.sort(c));
            A.due("places " + c, Shop.NOTHING, x.places(c));
        }
    }

    private static void letterItself() {
        TypeCases x = Shop.withLetters();
        for (int letter = 0; letter < 4; letter++) {
            x.give(0, letter);
            x.set(5, 0);
            A.due("sort", 11, x.sort(5));
            x.lift(1, 5);
            A.due("the letter", letter, x.value(1, 8));
        }
    }

    private static void rowsOf(int n) {
        for (int sort = 0; sort <= 10; sort++) {
            TypeCases x = new TypeCases();
            A.due("hold, sort " + sort, 1, x.hold(0, sort, n));
            A.due("sort " + sort, sort, x.sort(0));
            A.due("places, sort " + sort, n, x.places(0));
            x.lift(0, 0);
            A.due("value, sort " + sort, n, x.value(0, 9));
            A.due("turn, sort " + sort, n, x.turn(0));
        }
    }

    private static void noRowsOf(int... many) {
        for (int sort = 0; sort <= 10; sort++) {
            for (int n : many) {
                TypeCases x = new TypeCases();
                A.due("hold, sort " + sort + ", n " + n, Shop.OUTSIDE, x.hold(0, sort, n));
                A.due("it holds nothing still", 12, x.sort(0));
            }
        }
    }

    private static void numbersAtFirst() {
        for (int kind = 0; kind <= 7; kind++) {
            TypeCases x = new TypeCases();
            x.hold(0, kind, 20);
            for (int i = 0; i < 20; i++) {
                A.due("kind " + kind + ", place " + i, 0, x.tell(0, i, kind));
            }
        }
    }

    private static void nothingAtFirst() {
        for (int sort = 8; sort <= 10; sort++) {
            TypeCases x = Shop.withLetters();
            x.hold(0, sort, 20);
            for (int i = 0; i < 20; i++) {
                x.give(0, 0);
                A.due("take, sort " + sort, 1, x.take(0, 0, i));
                A.due("sort " + sort + ", place " + i, 12, x.kind(0));
            }
        }
    }

    private static final String[] OF_A_PLACE_TOLD = {"take", "put", "swap", "exchange, the first",
        "exchange, the second", "tell", "spread", "gather"};
    private static final Shop.At[] OF_A_PLACE = {(x, c, i) -> x.take(2, c, i), (x, c, i) -> x.put(0, c, i),
        (x, c, i) -> x.swap(0, c, i), (x, c, i) -> x.exchange(c, i, 4, 1), (x, c, i) -> x.exchange(4, 1, c, i),
        (x, c, i) -> x.tell(c, i, 5), (x, c, i) -> x.spread(c, i, 0), (x, c, i) -> x.gather(c, i, 1, 4)};
    private static final long[] OF_A_PLACE_DUE = {1, 1, 1, 1, 1, 0, 0, 1};

    private static void eachCallOfAPlace(int i) {
        for (int k = 0; k < OF_A_PLACE.length; k++) {
            TypeCases x = rows();
            x.hold(5, 4, 20);
            A.due(x, OF_A_PLACE_TOLD[k] + ", place " + i, OF_A_PLACE_DUE[k], 0, OF_A_PLACE[k].on(x, 5, i));
        }
        TypeCases x = rows();
        x.hold(5, 4, 20);
        x.put(0, 5, i);
        for (int k = 0; k < 20; k++) {
            A.due("it comes there alone: " + k, k == i ? 7 : 0, x.tell(5, k, 4));
        }
    }

    private static void noSuchPlace(int size, int... none) {
        for (int k = 0; k < OF_A_PLACE.length; k++) {
            for (int i : none) {
                TypeCases x = rows();
                x.hold(5, 4, size);
                A.due(x, OF_A_PLACE_TOLD[k] + ", place " + i, Shop.PLACE, 3, OF_A_PLACE[k].on(x, 5, i));
            }
        }
    }

    private static void fortyLetters() {
        TypeCases x = new TypeCases();
        for (int number = 0; number < 40; number++) {
            A.due("letter", number, x.letter(100 + number, false));
        }
        A.due("one more", Shop.FULL, x.letter(0, false));
        A.due("one more capital", Shop.FULL, x.letter(0, true));
        for (int number = 0; number < 40; number++) {
            A.due("give", 1, x.give(0, number));
            A.due("its number", number, x.value(0, 8));
            A.due("its width", 100 + number, x.weight(0));
        }
    }

    private static void belowTheLetters() {
        TypeCases x = Shop.withLetters();
        A.due("-2", Shop.UNKNOWN, x.give(0, -2));
        A.due("the lowest int", Shop.UNKNOWN, x.give(0, Shop.LOW));
        A.due("NONE is nothing, and there", 1, x.give(0, -1));
        A.due("the first one", 1, x.give(0, 0));
        A.due("the first one", 0, x.value(0, 8));
    }

    private static void behindTheLetters() {
        TypeCases x = new TypeCases();
        for (int number = 0; number < 40; number++) {
            A.due("not made yet", Shop.UNKNOWN, x.give(0, number));
            x.letter(1, false);
            A.due("made", 1, x.give(0, number));
        }
        A.due("40", Shop.UNKNOWN, x.give(0, 40));
        A.due("the highest int", Shop.UNKNOWN, x.give(0, Shop.HIGH));
        x.letter(1, false);
        A.due("40 behind a refused one", Shop.UNKNOWN, x.give(0, 40));
    }

    private static void endsOfWidth() {
        TypeCases x = new TypeCases();
        A.due("width 0", 0, x.letter(0, false));
        A.due("width 0, a capital", 1, x.letter(0, true));
        A.due("width 10000", 2, x.letter(10000, false));
        A.due("width 10000, a capital", 3, x.letter(10000, true));
    }

    private static void beyondWidth() {
        TypeCases x = new TypeCases();
        for (int width : new int[] {-1, 10001, Shop.LOW, Shop.HIGH}) {
            A.due("width " + width, Shop.OUTSIDE, x.letter(width, false));
            A.due("width " + width + ", a capital", Shop.OUTSIDE, x.letter(width, true));
        }
        A.due("none has been made", 0, x.letter(1, false));
    }

    private static void weighs(int width, boolean capital, int want) {
        TypeCases x = new TypeCases();
        x.letter(width, capital);
        x.give(0, 0);
        A.due("width " + width, want, x.weight(0));
    }

    private static void capitalsWeigh() {
        weighs(0, true, 5);
        weighs(1, true, 8);
        weighs(10000, true, 30005);
    }

    private static void othersWeigh() {
        weighs(0, false, 0);
        weighs(1, false, 1);
        weighs(10000, false, 10000);
    }

    private static final String[] OF_A_HAND_TOLD = {"set", "give", "lift", "number", "take", "put", "swap", "kind",
        "value", "weight", "find"};
    private static final Shop.With[] OF_A_HAND = {(x, h) -> x.set(0, h), (x, h) -> x.give(h, 0),
        (x, h) -> x.lift(h, 8), (x, h) -> x.number(h, 4, 1), (x, h) -> x.take(h, 8, 0), (x, h) -> x.put(h, 8, 0),
        (x, h) -> x.swap(h, 8, 0), (x, h) -> x.kind(h), (x, h) -> x.value(h, 8), (x, h) -> x.weight(h),
        (x, h) -> x.find(h, 8)};
    private static final long[] OF_A_HAND_DUE = {1, 1, 1, 1, 1, 1, 1, 8, 1, 32, 2};

    /** Each hand holds the capital 1, which stands at place 2 of case 8. */
    private static TypeCases hands() {
        TypeCases x = Shop.withLetters();
        x.hold(8, 8, 4);
        Shop.letters(x, 8, 0, Shop.NONE, 1, 2);
        for (int h = 0; h < 4; h++) {
            x.give(h, 1);
        }
        return x;
    }

    private static void eachCallOfAHand(int h) {
        for (int i = 0; i < OF_A_HAND.length; i++) {
            A.due(OF_A_HAND_TOLD[i] + ", hand " + h, OF_A_HAND_DUE[i], OF_A_HAND[i].on(hands(), h));
        }
    }

    private static void noSuchHand(int... none) {
        for (int i = 0; i < OF_A_HAND.length; i++) {
            for (int h : none) {
                A.due(OF_A_HAND_TOLD[i] + ", hand " + h, Shop.UNKNOWN, OF_A_HAND[i].on(hands(), h));
            }
        }
    }

    private static void fourHands() {
        TypeCases x = new TypeCases();
        for (int h = 0; h < 4; h++) {
            x.number(h, 4, 10 + h);
        }
        for (int h = 0; h < 4; h++) {
            A.due("hand " + h, 10 + h, x.value(h, 4));
        }
    }

    private static void handsAtFirst() {
        TypeCases x = new TypeCases();
        for (int h = 0; h < 4; h++) {
            A.due("kind " + h, 12, x.kind(h));
            A.due("value " + h, Shop.NOTHING, x.value(h, 9));
            A.due("weight " + h, Shop.NOTHING, x.weight(h));
        }
    }

    private static void anyRowInHand() {
        for (int sort = 0; sort <= 10; sort++) {
            TypeCases x = new TypeCases();
            x.hold(0, sort, sort);
            x.lift(0, 0);
            A.due("kind, sort " + sort, 9, x.kind(0));
            A.due("places, sort " + sort, sort, x.value(0, 9));
            A.due("set, sort " + sort, 1, x.set(1, 0));
            A.due("sort " + sort, sort, x.sort(1));
        }
    }
}
