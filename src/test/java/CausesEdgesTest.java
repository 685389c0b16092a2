/** The edges that the term CAUSES names: which of them is told, and that nothing else is changed. */
public final class CausesEdgesTest {
    private static final Answers A = new Answers("CausesEdgesTest");
    private static final int NOTHING = Shop.NOTHING, MISFIT = Shop.MISFIT, PLACE = Shop.PLACE;
    private static final int[] ANY_PLACE = {0, 2, 3, -1, 20, Shop.LOW, Shop.HIGH};
    private static final int[] NO_PLACE = {3, -1, 20, Shop.LOW, Shop.HIGH};
    private static final int[] ROWS = {0, 2, 3, 4, 5, 6, 7, 8, 9, 10};
    private static final int[] NUMBERS = {0, 2, 3, 4, 5, 6, 7};

    public static void main(String[] args) {
        A.test("TO READ: NOTHING, there or not the place", () -> reading(1, NOTHING, 1));
        A.test("TO READ: MISFIT, if it holds no ROW, there or not the place", () -> reading(11, MISFIT, 2));
        A.test("TO READ: PLACE", CausesEdgesTest::readNoPlace);
        A.test("TO READ before TO WRITE: in swap", CausesEdgesTest::swapReadsFirst);
        A.test("TO READ before TO WRITE: in exchange", CausesEdgesTest::exchangeReadsFirst);
        A.test("TO READ before TO WRITE: in gather", CausesEdgesTest::gatherReadsFirst);
        A.test("TO WRITE: NOTHING, whatever is to come, there or not the place", () -> writing(1, NOTHING, 1));
        A.test("TO WRITE: MISFIT, if it holds no ROW, there or not the place", () -> writing(11, MISFIT, 2));
        A.test("TO WRITE: MISFIT, if nothing is to come into a ROW of numbers, before PLACE",
            CausesEdgesTest::nothingIntoNumbers);
        A.test("TO WRITE: MISFIT, if nothing is to come into a ROW of numbers without places, before PLACE",
            CausesEdgesTest::nothingIntoNoNumbers);
        A.test("TO WRITE: PLACE, where nothing is to come into 8, 9, 10", CausesEdgesTest::nothingIntoNoPlace);
        A.test("TO WRITE: PLACE, before MISFIT, if it does not fit", CausesEdgesTest::placeBeforeMisfit);
        A.test("TO WRITE: PLACE, where it would fit", CausesEdgesTest::placeWhereItFits);
        A.test("a number into a ROW of numbers (nothing else does): no LETTER", CausesEdgesTest::letterIntoNumbers);
        A.test("a number into a ROW of numbers (nothing else does): no ROW", CausesEdgesTest::rowIntoNumbers);
        A.test("a number fits into none of 8, 9, 10", CausesEdgesTest::numberIntoPieces);
        A.test("a LETTER into LETTERS", CausesEdgesTest::letterIntoLetters);
        A.test("a CAPITAL into CAPITALS, too; another LETTER not", CausesEdgesTest::letterIntoCapitals);
        A.test("a LETTER not into LINES", CausesEdgesTest::letterIntoLines);
        A.test("a ROW of chars into LINES", CausesEdgesTest::charsIntoLines);
        A.test("no other ROW into LINES", CausesEdgesTest::otherRowIntoLines);
        A.test("no ROW into LETTERS, CAPITALS", CausesEdgesTest::rowIntoLetters);
        A.test("nothing fits into 8, 9, 10", CausesEdgesTest::nothingIntoPieces);
        A.test("What fails by a CAUSE answers -10 less it", CausesEdgesTest::answersOfEachCause);
        A.test("changes nothing but what is told there: set", () -> fails(2, x -> x.set(4, 0)));
        A.test("changes nothing but what is told there: take", CausesEdgesTest::failingTake);
        A.test("changes nothing but what is told there: put", CausesEdgesTest::failingPut);
        A.test("changes nothing but what is told there: swap", CausesEdgesTest::failingSwap);
        A.test("changes nothing but what is told there: exchange", CausesEdgesTest::failingExchange);
        A.test("changes nothing but what is told there: value", CausesEdgesTest::failingValue);
        A.test("changes nothing but what is told there: weight", CausesEdgesTest::failingWeight);
        A.test("changes nothing but what is told there: tell", CausesEdgesTest::failingTell);
        A.test("changes nothing but what is told there: places", CausesEdgesTest::failingPlaces);
        A.test("changes nothing but what is told there: turn", CausesEdgesTest::failingTurn);
        A.test("changes nothing but what is told there: order", CausesEdgesTest::failingOrder);
        A.test("changes nothing but what is told there: spread", CausesEdgesTest::failingSpread);
        A.test("changes nothing but what is told there: gather", CausesEdgesTest::failingGather);
        A.test("changes nothing but what is told there: find", CausesEdgesTest::failingFind);
        A.end();
    }

    private static final String[] READERS_TOLD = {"take", "swap of a number", "swap of nothing", "exchange, the first",
        "exchange, the second", "spread to none", "spread to many", "gather one", "gather many"};
    private static final Shop.At[] READERS = {(x, c, i) -> x.take(0, c, i), (x, c, i) -> x.swap(0, c, i),
        (x, c, i) -> x.swap(3, c, i), (x, c, i) -> x.exchange(c, i, 5, 0), (x, c, i) -> x.exchange(5, 0, c, i),
        (x, c, i) -> x.spread(c, i, 0), (x, c, i) -> x.spread(c, i, 100), (x, c, i) -> x.gather(c, i, 1, 5),
        (x, c, i) -> x.gather(c, i, 100, 5)};

    private static void reading(int c, int want, int cause) {
        for (int r = 0; r < READERS.length; r++) {
            for (int i : ANY_PLACE) {
                TypeCases x = Shop.filled();
                A.due(x, READERS_TOLD[r] + ", place " + i, want, cause, READERS[r].on(x, c, i));
            }
        }
    }

    private static void readNoPlace() {
        for (int r = 0; r < READERS.length; r++) {
            for (int c : ROWS) {
                for (int i : NO_PLACE) {
                    TypeCases x = Shop.filled();
                    A.due(x, READERS_TOLD[r] + ", case " + c + ", place " + i, PLACE, 3, READERS[r].on(x, c, i));
                }
            }
        }
    }

    /** Nothing is to come into numbers: MISFIT before PLACE in put, but swap reads first. */
    private static void swapReadsFirst() {
        for (int c : NUMBERS) {
            TypeCases x = Shop.filled();
            A.due(x, "swap of nothing, case " + c, PLACE, 3, x.swap(3, c, 3));
            A.due(x, "swap of nothing, case " + c, MISFIT, 2, x.swap(3, c, 2));
        }
    }

    private static void exchangeReadsFirst() {
        TypeCases x = Shop.filled();
        A.due(x, "the first holds nothing, the second a letter", NOTHING, 1, x.exchange(1, 0, 11, 0));
        A.due(x, "the first holds nothing, no place in the second", NOTHING, 1, x.exchange(1, 0, 4, 3));
        A.due(x, "the first a letter, the second nothing", MISFIT, 2, x.exchange(11, 0, 1, 0));
        A.due(x, "the first a letter, no place in the second", MISFIT, 2, x.exchange(11, 0, 4, 3));
        A.due(x, "no place in the first, the second nothing", PLACE, 3, x.exchange(4, 3, 1, 0));
        A.due(x, "no place in the first, the second a letter", PLACE, 3, x.exchange(4, 3, 11, 0));
        A.due(x, "no place in the second, though it would not fit", PLACE, 3, x.exchange(5, 0, 4, 3));
        A.due(x, "no place in the second, though nothing is to come", PLACE, 3, x.exchange(8, 2, 4, 3));
        A.due(x, "it does not fit", MISFIT, 2, x.exchange(8, 2, 4, 2));
    }

    private static void gatherReadsFirst() {
        TypeCases x = Shop.filled();
        A.due(x, "from nothing to a letter", NOTHING, 1, x.gather(1, 0, 1, 11));
        A.due(x, "from a letter to nothing", MISFIT, 2, x.gather(11, 0, 1, 1));
        A.due(x, "no place, to nothing", PLACE, 3, x.gather(4, 3, 1, 1));
        A.due(x, "no place, to a letter", PLACE, 3, x.gather(4, 3, 1, 11));
        A.due(x, "no place, to what it would not fit into", PLACE, 3, x.gather(4, 3, 1, 8));
    }

    /** What each hand of a filled object holds, put, and two of them gathered. */
    private static void writing(int c, int want, int cause) {
        for (int h = 0; h < 4; h++) {
            for (int i : ANY_PLACE) {
                TypeCases x = Shop.filled();
                A.due(x, "put of hand " + h + ", place " + i, want, cause, x.put(h, c, i));
            }
        }
        TypeCases x = Shop.filled();
        A.due(x, "gather of a number", want, cause, x.gather(4, 0, 1, c));
        A.due(x, "gather of nothing", want, cause, x.gather(8, 2, 1, c));
    }

    private static void nothingIntoNumbers() {
        for (int kind = 0; kind <= 7; kind++) {
            for (int i : ANY_PLACE) {
                TypeCases x = new TypeCases();
                x.hold(0, kind, 3);
                A.due(x, "put, kind " + kind + ", place " + i, MISFIT, 2, x.put(0, 0, i));
            }
        }
    }

    private static void nothingIntoNoNumbers() {
        for (int kind = 0; kind <= 7; kind++) {
            TypeCases x = new TypeCases();
            x.hold(0, kind, 0);
            x.hold(1, 8, 1);
            A.due(x, "put, kind " + kind, MISFIT, 2, x.put(0, 0, 0));
            A.due(x, "gather, kind " + kind, MISFIT, 2, x.gather(1, 0, 1, 0));
        }
    }

    private static void nothingIntoNoPlace() {
        for (int sort = 8; sort <= 10; sort++) {
            for (int i : NO_PLACE) {
                TypeCases x = Shop.filled();
                A.due(x, "put, sort " + sort + ", place " + i, PLACE, 3, x.put(3, sort, i));
            }
            TypeCases x = Shop.filled();
            x.hold(0, sort, 0);
            A.due(x, "gather, sort " + sort, PLACE, 3, x.gather(8, 2, 1, 0));
        }
    }

    private static void placeBeforeMisfit() {
        int[][] misfits = {{0, 0}, {0, 3}, {0, 8}, {0, 9}, {0, 10}, {1, 0}, {1, 4}, {1, 7}, {1, 10}, {2, 3}, {2, 5},
            {2, 8}, {2, 9}};
        for (int[] pair : misfits) {
            for (int i : NO_PLACE) {
                TypeCases x = Shop.filled();
                A.due(x, "put of hand " + pair[0] + ", case " + pair[1], PLACE, 3, x.put(pair[0], pair[1], i));
            }
        }
        TypeCases x = Shop.filled();
        x.hold(1, 0, 0);
        A.due(x, "gather of an int into no truths", PLACE, 3, x.gather(4, 0, 1, 1));
        A.due(x, "gather of a letter into no truths", PLACE, 3, x.gather(8, 0, 1, 1));
        x.hold(1, 9, 0);
        A.due(x, "gather of a letter into no capitals", PLACE, 3, x.gather(8, 0, 1, 1));
    }

    private static void placeWhereItFits() {
        int[][] fits = {{0, 2}, {0, 4}, {0, 7}, {1, 8}, {1, 9}, {2, 10}};
        for (int[] pair : fits) {
            for (int i : NO_PLACE) {
                TypeCases x = Shop.filled();
                A.due(x, "put of hand " + pair[0] + ", case " + pair[1], PLACE, 3, x.put(pair[0], pair[1], i));
            }
            TypeCases x = Shop.filled();
            A.due(x, "put of hand " + pair[0] + " where there is a place", 1, 0, x.put(pair[0], pair[1], 2));
        }
    }

    /** What hand 0 holds, put and swapped to a place that is there in a row of a sort. */
    private static void comes(TypeCases x, String what, int sort, boolean fits) {
        x.hold(0, sort, 1);
        int want = fits ? 1 : MISFIT;
        int cause = fits ? 0 : 2;
        A.due(x, what + ", put into " + sort, want, cause, x.put(0, 0, 0));
        x.hold(0, sort, 1);
        A.due(x, what + ", swapped into " + sort, want, cause, x.swap(0, 0, 0));
    }

    private static void letterIntoNumbers() {
        for (int kind = 0; kind <= 7; kind++) {
            for (int letter = 0; letter < 2; letter++) {
                TypeCases x = Shop.withLetters();
                x.give(0, letter);
                comes(x, "letter " + letter, kind, false);
                x.hold(1, 8, 1);
                Shop.letters(x, 1, letter);
                A.due(x, "gathered into " + kind, MISFIT, 2, x.gather(1, 0, 1, 0));
                A.due(x, "exchanged into " + kind, MISFIT, 2, x.exchange(1, 0, 0, 0));
            }
        }
    }

    private static void rowIntoNumbers() {
        for (int kind = 0; kind <= 7; kind++) {
            for (int sort = 0; sort <= 10; sort++) {
                TypeCases x = new TypeCases();
                x.hold(1, sort, 1);
                x.lift(0, 1);
                comes(x, "a row of sort " + sort, kind, false);
            }
        }
    }

    private static void numberIntoPieces() {
        for (int sort = 8; sort <= 10; sort++) {
            for (int kind = 0; kind <= 7; kind++) {
                TypeCases x = new TypeCases();
                x.number(0, kind, 0);
                comes(x, "a number of kind " + kind, sort, false);
                x.hold(1, kind, 1);
                A.due(x, "gathered into " + sort, MISFIT, 2, x.gather(1, 0, 1, 0));
                A.due(x, "exchanged into " + sort, MISFIT, 2, x.exchange(1, 0, 0, 0));
            }
        }
    }

    private static void letterIntoLetters() {
        for (int letter = 0; letter < 4; letter++) {
            TypeCases x = Shop.withLetters();
            x.give(0, letter);
            comes(x, "letter " + letter, 8, true);
            x.take(1, 0, 0);
            A.due("it stands there", letter, x.value(1, 8));
        }
    }

    private static void letterIntoCapitals() {
        for (int letter = 0; letter < 4; letter++) {
            TypeCases x = Shop.withLetters();
            x.give(0, letter);
            comes(x, "letter " + letter, 9, letter % 2 == 1);
            x.take(1, 0, 0);
            A.due("what stands there", letter % 2 == 1 ? 8 : 12, x.kind(1));
        }
    }

    private static void letterIntoLines() {
        for (int letter = 0; letter < 4; letter++) {
            TypeCases x = Shop.withLetters();
            x.give(0, letter);
            comes(x, "letter " + letter, 10, false);
        }
    }

    private static void charsIntoLines() {
        for (int n = 0; n <= 20; n++) {
            TypeCases x = new TypeCases();
            x.hold(1, 3, n);
            x.lift(0, 1);
            comes(x, "a row of " + n + " chars", 10, true);
            x.take(1, 0, 0);
            A.due("it stands there", n, x.value(1, 9));
        }
    }

    private static void otherRowIntoLines() {
        for (int sort = 0; sort <= 10; sort++) {
            for (int n = 0; sort != 3 && n <= 1; n++) {
                TypeCases x = new TypeCases();
                x.hold(1, sort, n);
                x.lift(0, 1);
                comes(x, "a row of sort " + sort, 10, false);
            }
        }
    }

    private static void rowIntoLetters() {
        for (int sort = 0; sort <= 10; sort++) {
            TypeCases x = new TypeCases();
            x.hold(1, sort, 1);
            x.lift(0, 1);
            comes(x, "a row of sort " + sort, 8, false);
            comes(x, "a row of sort " + sort, 9, false);
        }
    }

    private static void nothingIntoPieces() {
        for (int sort = 8; sort <= 10; sort++) {
            TypeCases x = Shop.filled();
            A.due(x, "put into " + sort, 1, 0, x.put(3, sort, 0));
            x.take(0, sort, 0);
            A.due("nothing stands there", 12, x.kind(0));
            A.due(x, "swapped into " + sort, 1, 0, x.swap(3, sort, 0));
            x.hold(1, sort, 1);
            A.due(x, "gathered into " + sort, 1, 0, x.gather(8, 2, 1, 1));
            A.due(x, "exchanged into " + sort, 1, 0, x.exchange(8, 2, 1, 0));
        }
    }

    private static void answersOfEachCause() {
        TypeCases x = Shop.filled();
        A.due(x, "NOTHING", -11, 1, x.take(0, 1, 0));
        A.due(x, "MISFIT", -12, 2, x.take(0, 11, 0));
        A.due(x, "PLACE", -13, 3, x.take(0, 4, 3));
    }

    /** Each of these calls, on an object of its own, fails by the cause and leaves all as it was. */
    private static void fails(int cause, Shop.Call... calls) {
        String before = Shop.seen(Shop.filled());
        for (int i = 0; i < calls.length; i++) {
            TypeCases x = Shop.filled();
            A.due(x, "call " + i + " by cause " + cause, -10 - cause, cause, calls[i].on(x));
            A.same("call " + i + " by cause " + cause, before, Shop.seen(x));
        }
    }

    private static void failingTake() {
        fails(1, x -> x.take(0, 1, 0), x -> x.take(3, 1, 0));
        fails(2, x -> x.take(0, 11, 0), x -> x.take(1, 11, 0));
        fails(3, x -> x.take(0, 4, 3), x -> x.take(1, 8, -1), x -> x.take(2, 10, 3));
    }

    private static void failingPut() {
        fails(1, x -> x.put(0, 1, 0), x -> x.put(3, 1, 0));
        fails(2, x -> x.put(0, 11, 0), x -> x.put(3, 4, 0), x -> x.put(3, 4, 3), x -> x.put(0, 0, 0),
            x -> x.put(1, 4, 0), x -> x.put(2, 8, 0), x -> x.put(0, 9, 0), x -> x.put(1, 10, 0));
        fails(3, x -> x.put(0, 4, 3), x -> x.put(1, 9, -1), x -> x.put(2, 10, 3), x -> x.put(3, 8, 3));
    }

    private static void failingSwap() {
        fails(1, x -> x.swap(0, 1, 0), x -> x.swap(3, 1, 0));
        fails(2, x -> x.swap(0, 11, 0), x -> x.swap(3, 4, 0), x -> x.swap(0, 0, 0), x -> x.swap(1, 4, 0),
            x -> x.swap(2, 8, 0), x -> x.swap(0, 9, 0), x -> x.swap(1, 10, 0));
        fails(3, x -> x.swap(0, 4, 3), x -> x.swap(1, 9, -1), x -> x.swap(2, 10, 3), x -> x.swap(3, 4, 3));
    }

    private static void failingExchange() {
        fails(1, x -> x.exchange(1, 0, 4, 0), x -> x.exchange(4, 0, 1, 0), x -> x.exchange(1, 0, 1, 0));
        // Among these the first can not be written, though the second can: 4 for 5, 3 for 4, 9 for 8, 2 for 6.
        fails(2, x -> x.exchange(11, 0, 4, 0), x -> x.exchange(4, 0, 11, 0), x -> x.exchange(5, 0, 4, 0),
            x -> x.exchange(4, 0, 5, 0), x -> x.exchange(3, 0, 4, 1), x -> x.exchange(8, 0, 9, 0),
            x -> x.exchange(9, 0, 8, 0), x -> x.exchange(9, 1, 8, 0), x -> x.exchange(2, 1, 6, 2),
            x -> x.exchange(8, 2, 7, 0), x -> x.exchange(10, 0, 8, 2), x -> x.exchange(8, 2, 10, 0));
        fails(3, x -> x.exchange(4, 3, 5, 0), x -> x.exchange(4, 0, 5, 3), x -> x.exchange(4, 0, 4, -1));
    }

    private static void failingValue() {
        fails(1, x -> x.value(3, 0), x -> x.value(3, 8), x -> x.value(3, 9));
        fails(2, x -> x.value(0, 0), x -> x.value(0, 3), x -> x.value(0, 8), x -> x.value(0, 9), x -> x.value(1, 7),
            x -> x.value(1, 9), x -> x.value(2, 3), x -> x.value(2, 8));
    }

    private static void failingWeight() {
        fails(1, x -> x.weight(3));
        fails(2, x -> x.weight(0), x -> x.weight(2));
    }

    private static void failingTell() {
        fails(1, x -> x.tell(1, 0, 4));
        fails(2, x -> x.tell(11, 0, 4), x -> x.tell(8, 0, 4), x -> x.tell(9, 3, 4), x -> x.tell(4, 0, 3),
            x -> x.tell(0, 0, 4));
        fails(3, x -> x.tell(4, 3, 4), x -> x.tell(4, -1, 3));
    }

    private static void failingPlaces() {
        fails(1, x -> x.places(1));
        fails(2, x -> x.places(11));
    }

    private static void failingTurn() {
        fails(1, x -> x.turn(1));
        fails(2, x -> x.turn(11));
    }

    private static void failingOrder() {
        fails(1, x -> x.order(1, 5), x -> x.order(1, 7));
        fails(2, x -> x.order(11, 5), x -> x.order(0, 5), x -> x.order(0, 7), x -> x.order(6, 5), x -> x.order(7, 5),
            x -> x.order(8, 7), x -> x.order(9, 7), x -> x.order(10, 5));
    }

    private static void failingSpread() {
        fails(1, x -> x.spread(1, 0, 0), x -> x.spread(1, 0, 1));
        fails(2, x -> x.spread(11, 0, 0), x -> x.spread(11, 0, 1));
        fails(3, x -> x.spread(4, 3, 0), x -> x.spread(4, -1, 2), x -> x.spread(8, Shop.HIGH, 2));
    }

    private static void failingGather() {
        fails(1, x -> x.gather(1, 0, 1, 4), x -> x.gather(4, 0, 1, 1));
        fails(2, x -> x.gather(11, 0, 1, 4), x -> x.gather(4, 0, 1, 11), x -> x.gather(5, 0, 3, 4),
            x -> x.gather(8, 2, 1, 4), x -> x.gather(8, 0, 2, 9), x -> x.gather(4, 0, 3, 8));
        fails(3, x -> x.gather(4, 3, 1, 5), x -> x.gather(4, -1, 3, 5), x -> x.gather(4, Shop.HIGH, 100, 4));
    }

    private static void failingFind() {
        fails(1, x -> x.find(0, 1), x -> x.find(3, 1));
        fails(2, x -> x.find(0, 11), x -> x.find(3, 11));
    }
}
