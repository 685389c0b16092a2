/** The edges that promises 1 to 7 name: what is made, held, given, lifted. */
public final class MakingEdgesTest {
    private static final Answers A = new Answers("MakingEdgesTest");

    public static void main(String[] args) {
        A.test("1: Nothing is held", MakingEdgesTest::nothingIsHeld);
        A.test("1: no LETTERS", MakingEdgesTest::noLetters);
        A.test("1: a new object has nothing of another one", MakingEdgesTest::ownObjects);
        A.test("2: numbers of a KIND, or 8, 9, 10", MakingEdgesTest::holdEachSort);
        A.test("2: a new ROW", MakingEdgesTest::holdAnew);
        A.test("2: 12: nothing (n is not looked at)", MakingEdgesTest::holdNothing);
        A.test("2: UNKNOWN", MakingEdgesTest::holdUnknown);
        A.test("2: OUTSIDE: sort", MakingEdgesTest::holdNoSort);
        A.test("2: OUTSIDE: n", MakingEdgesTest::holdTooMany);
        A.test("3: its number", MakingEdgesTest::letterNumbers);
        A.test("3: OUTSIDE: width", MakingEdgesTest::letterTooWide);
        A.test("3: FULL", MakingEdgesTest::letterFull);
        A.test("4: A CASE holds what a HAND holds: a ROW", MakingEdgesTest::setRow);
        A.test("4: A CASE holds what a HAND holds: a LETTER", MakingEdgesTest::setLetter);
        A.test("4: A CASE holds what a HAND holds: nothing", MakingEdgesTest::setNothing);
        A.test("4: UNKNOWN", MakingEdgesTest::setUnknown);
        A.test("4: MISFIT (a number)", MakingEdgesTest::setNumber);
        A.test("5: A HAND holds a LETTER", MakingEdgesTest::giveLetter);
        A.test("5: NONE: nothing", MakingEdgesTest::giveNone);
        A.test("5: UNKNOWN", MakingEdgesTest::giveUnknown);
        A.test("6: A HAND holds what a CASE holds: a ROW", MakingEdgesTest::liftRow);
        A.test("6: A HAND holds what a CASE holds: a LETTER", MakingEdgesTest::liftLetter);
        A.test("6: A HAND holds what a CASE holds: nothing", MakingEdgesTest::liftNothing);
        A.test("6: UNKNOWN", MakingEdgesTest::liftUnknown);
        A.test("7: A HAND holds a number of a KIND", MakingEdgesTest::numberOfEachKind);
        A.test("7: UNKNOWN", MakingEdgesTest::numberUnknown);
        A.test("7: OUTSIDE: kind", MakingEdgesTest::numberOfNoKind);
        A.end();
    }

    private static void nothingIsHeld() {
        TypeCases x = new TypeCases();
        A.due("failed()", 0, x.failed());
        for (int c = 0; c < 12; c++) {
            A.due("case " + c, 12, x.sort(c));
        }
        for (int h = 0; h < 4; h++) {
            A.due("hand " + h, 12, x.kind(h));
        }
    }

    private static void noLetters() {
        TypeCases x = new TypeCases();
        A.due("letter 0", Shop.UNKNOWN, x.give(0, 0));
        A.due("letter 39", Shop.UNKNOWN, x.give(0, 39));
        A.due("NONE", 1, x.give(0, -1));
        A.due("the first one", 0, x.letter(5, false));
        A.due("letter 0", 1, x.give(0, 0));
        A.due("letter 1", Shop.UNKNOWN, x.give(0, 1));
    }

    private static void ownObjects() {
        String before = Shop.seen(Shop.filled());
        TypeCases other = Shop.filled();
        other.places(1);
        TypeCases x = new TypeCases();
        A.due("failed()", 0, x.failed());
        A.due("the cases", 12, x.sort(4));
        A.due("the hands", 12, x.kind(2));
        A.due("the letters", 0, x.letter(77, true));
        x.hold(4, 7, 20);
        x.number(2, 5, 99);
        A.due("the latest call", Shop.MISFIT, x.weight(2));
        A.due("the other one's failed()", 1, other.failed());
        A.same("the other one", before, Shop.seen(other));
    }

    private static void holdEachSort() {
        TypeCases x = new TypeCases();
        for (int sort = 0; sort <= 10; sort++) {
            A.due("hold " + sort, 1, x.hold(sort, sort, 2));
            A.due("sort " + sort, sort, x.sort(sort));
            A.due("places " + sort, 2, x.places(sort));
        }
    }

    private static void holdAnew() {
        for (int kind = 0; kind <= 7; kind++) {
            TypeCases x = new TypeCases();
            Shop.row(x, 0, kind, 1, 1);
            x.lift(0, 0);
            A.due("hold again", 1, x.hold(0, kind, 2));
            A.due("its first place, kind " + kind, 0, x.tell(0, 0, kind));
            A.due("its last place, kind " + kind, 0, x.tell(0, 1, kind));
            x.set(1, 0);
            A.due("the old one is as it was, kind " + kind, 1, x.tell(1, 0, kind));
        }
        TypeCases x = Shop.filled();
        for (int sort = 8; sort <= 10; sort++) {
            A.due("hold again", 1, x.hold(sort, sort, 3));
            A.due("nothing stands there, sort " + sort, 2, x.find(3, sort));
            x.take(0, sort, 0);
            A.due("nothing stands there, sort " + sort, 12, x.kind(0));
        }
    }

    private static void holdNothing() {
        for (int n : new int[] {0, 20, -1, 21, Shop.LOW, Shop.HIGH}) {
            TypeCases x = Shop.filled();
            for (int c = 0; c < 12; c++) {
                A.due("n " + n, 1, x.hold(c, 12, n));
                A.due("case " + c, 12, x.sort(c));
            }
            A.due("the hand has its row still", 3, x.value(2, 9));
        }
    }

    private static void holdUnknown() {
        TypeCases x = Shop.filled();
        for (int c : new int[] {-1, 12, Shop.LOW, Shop.HIGH}) {
            A.due("a row, case " + c, Shop.UNKNOWN, x.hold(c, 4, 3));
            A.due("nothing, case " + c, Shop.UNKNOWN, x.hold(c, 12, 0));
        }
    }

    private static void holdNoSort() {
        for (int sort : new int[] {-1, 11, 13, Shop.LOW, Shop.HIGH}) {
            TypeCases x = Shop.filled();
            A.due("sort " + sort, Shop.OUTSIDE, x.hold(4, sort, 1));
            A.due("sort " + sort + ", n -1", Shop.OUTSIDE, x.hold(4, sort, -1));
            A.due("as it was", 4, x.sort(4));
        }
    }

    private static void holdTooMany() {
        for (int n : new int[] {-1, 21, Shop.LOW, Shop.HIGH}) {
            for (int sort = 0; sort <= 10; sort++) {
                TypeCases x = Shop.filled();
                A.due("n " + n + ", sort " + sort, Shop.OUTSIDE, x.hold(4, sort, n));
                A.due("as it was", 3, x.places(4));
            }
        }
    }

    private static void letterNumbers() {
        TypeCases x = new TypeCases();
        for (int number = 0; number < 40; number++) {
            A.due("letter", number, x.letter(3, number % 3 == 0));
            A.due("a refused one takes no number", Shop.OUTSIDE, x.letter(-1, false));
        }
    }

    private static void letterTooWide() {
        TypeCases x = new TypeCases();
        A.due("-1", Shop.OUTSIDE, x.letter(-1, false));
        A.due("10001", Shop.OUTSIDE, x.letter(10001, false));
        A.due("0", 0, x.letter(0, false));
        A.due("10000", 1, x.letter(10000, false));
        A.due("the lowest int", Shop.OUTSIDE, x.letter(Shop.LOW, true));
        A.due("the highest int", Shop.OUTSIDE, x.letter(Shop.HIGH, true));
    }

    private static void letterFull() {
        TypeCases x = new TypeCases();
        for (int number = 0; number < 39; number++) {
            x.letter(number, false);
        }
        A.due("the last one", 39, x.letter(5, true));
        A.due("one more", Shop.FULL, x.letter(5, true));
        A.due("and one more", Shop.FULL, x.letter(5, false));
    }

    private static void setRow() {
        for (int sort = 0; sort <= 10; sort++) {
            TypeCases x = new TypeCases();
            x.hold(0, sort, 3);
            x.lift(0, 0);
            A.due(x, "set", 1, 0, x.set(11, 0));
            A.due("sort " + sort, sort, x.sort(11));
            A.due("the hand holds it still", 9, x.kind(0));
        }
        TypeCases x = Shop.filled();
        x.set(4, 2);
        x.number(0, 3, 90);
        x.put(0, 4, 0);
        A.due("one ROW in two cases", 90, x.tell(3, 0, 3));
    }

    private static void setLetter() {
        TypeCases x = Shop.filled();
        A.due(x, "set", 1, 0, x.set(4, 1));
        A.due("sort", 11, x.sort(4));
        x.lift(0, 4);
        A.due("the letter", 1, x.value(0, 8));
        A.due("the hand holds it still", 1, x.value(1, 8));
    }

    private static void setNothing() {
        TypeCases x = Shop.filled();
        for (int c = 0; c < 12; c++) {
            A.due(x, "set", 1, 0, x.set(c, 3));
            A.due("sort", 12, x.sort(c));
        }
        A.due("the hand has its row still", 3, x.value(2, 9));
    }

    private static void setUnknown() {
        TypeCases x = Shop.filled();
        for (int beyond : new int[] {-1, Shop.LOW, Shop.HIGH}) {
            A.due("case " + beyond, Shop.UNKNOWN, x.set(beyond, 1));
            A.due("hand " + beyond, Shop.UNKNOWN, x.set(4, beyond));
        }
        A.due("case 12", Shop.UNKNOWN, x.set(12, 1));
        A.due("case 12, a number", Shop.UNKNOWN, x.set(12, 0));
        A.due("hand 4", Shop.UNKNOWN, x.set(4, 4));
        A.due("as it was", 4, x.sort(4));
    }

    private static void setNumber() {
        for (int kind = 0; kind <= 7; kind++) {
            TypeCases x = Shop.filled();
            x.number(2, kind, 1);
            A.due(x, "into a row", Shop.MISFIT, 2, x.set(4, 2));
            A.due(x, "into nothing", Shop.MISFIT, 2, x.set(1, 2));
            A.due(x, "into a letter", Shop.MISFIT, 2, x.set(11, 2));
            A.due("a row", 4, x.sort(4));
            A.due("nothing", 12, x.sort(1));
            A.due("a letter", 11, x.sort(11));
        }
    }

    private static void giveLetter() {
        TypeCases x = Shop.filled();
        for (int h = 0; h < 4; h++) {
            A.due("give", 1, x.give(h, h));
            A.due("kind", 8, x.kind(h));
            A.due("the letter", h, x.value(h, 8));
        }
        A.due("the first one again", 1, x.give(3, 0));
        A.due("two hands, one letter", 0, x.value(3, 8));
    }

    private static void giveNone() {
        TypeCases x = Shop.filled();
        for (int h = 0; h < 4; h++) {
            A.due("give", 1, x.give(h, -1));
            A.due("kind", 12, x.kind(h));
            A.due("value", Shop.NOTHING, x.value(h, 8));
        }
        A.due("the letter is there still", 1, x.give(0, 1));
    }

    private static void giveUnknown() {
        TypeCases x = Shop.filled();
        for (int letter : new int[] {-2, 4, 39, 40, Shop.LOW, Shop.HIGH}) {
            A.due("letter " + letter, Shop.UNKNOWN, x.give(1, letter));
        }
        A.due("hand 4", Shop.UNKNOWN, x.give(4, 0));
        A.due("hand -1", Shop.UNKNOWN, x.give(-1, -1));
        A.due("as it was", 1, x.value(1, 8));
    }

    private static void liftRow() {
        TypeCases x = Shop.filled();
        for (int c = 2; c <= 10; c++) {
            A.due("lift", 1, x.lift(0, c));
            A.due("kind", 9, x.kind(0));
            A.due("places", 3, x.value(0, 9));
            A.due("the case holds it still", c, x.sort(c));
        }
        x.lift(0, 3);
        A.due("it is the same ROW", 0, x.find(0, 10));
    }

    private static void liftLetter() {
        TypeCases x = Shop.filled();
        A.due("lift", 1, x.lift(0, 11));
        A.due("the letter", 2, x.value(0, 8));
        A.due("the case holds it still", 11, x.sort(11));
    }

    private static void liftNothing() {
        TypeCases x = Shop.filled();
        for (int h = 0; h < 4; h++) {
            A.due(x, "lift", 1, 0, x.lift(h, 1));
            A.due("kind", 12, x.kind(h));
        }
    }

    private static void liftUnknown() {
        TypeCases x = Shop.filled();
        for (int beyond : new int[] {-1, Shop.LOW, Shop.HIGH}) {
            A.due("hand " + beyond, Shop.UNKNOWN, x.lift(beyond, 4));
            A.due("case " + beyond, Shop.UNKNOWN, x.lift(1, beyond));
        }
        A.due("hand 4", Shop.UNKNOWN, x.lift(4, 4));
        A.due("case 12", Shop.UNKNOWN, x.lift(1, 12));
        A.due("as it was", 1, x.value(1, 8));
    }

    private static void numberOfEachKind() {
        TypeCases x = Shop.filled();
        for (int kind = 0; kind <= 7; kind++) {
            for (int h = 0; h < 4; h++) {
                A.due("number", 1, x.number(h, kind, 1));
                A.due("kind", kind, x.kind(h));
                A.due("value", 1, x.value(h, kind));
            }
        }
    }

    private static void numberUnknown() {
        TypeCases x = Shop.filled();
        for (int h : new int[] {-1, 4, Shop.LOW, Shop.HIGH}) {
            A.due("hand " + h, Shop.UNKNOWN, x.number(h, 4, 7));
        }
    }

    private static void numberOfNoKind() {
        TypeCases x = Shop.filled();
        for (int kind : new int[] {-1, 8, 9, 12, Shop.LOW, Shop.HIGH}) {
            A.due("kind " + kind, Shop.OUTSIDE, x.number(0, kind, 7));
            A.due("kind " + kind, Shop.OUTSIDE, x.number(3, kind, 7));
        }
        A.due("as it was", -3, x.value(0, 1));
        A.due("as it was", 12, x.kind(3));
    }
}
