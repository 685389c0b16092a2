/** The edges that promises 12 to 17 and 23 name: what is told of hands, cases and the latest call. */
public final class TellingEdgesTest {
    private static final Answers A = new Answers("TellingEdgesTest");
    private static final int NOTHING = Shop.NOTHING, MISFIT = Shop.MISFIT, PLACE = Shop.PLACE;

    public static void main(String[] args) {
        A.test("12: 0 .. 7 a number", TellingEdgesTest::kindOfNumbers);
        A.test("12: 8 a LETTER", TellingEdgesTest::kindOfLetters);
        A.test("12: 9 a ROW", TellingEdgesTest::kindOfRows);
        A.test("12: 12 nothing", TellingEdgesTest::kindOfNothing);
        A.test("12: UNKNOWN", TellingEdgesTest::kindUnknown);
        A.test("13: numbers as told, if theirs goes into it", TellingEdgesTest::valueOfNumbers);
        A.test("13: a LETTER (kind = 8): its number", TellingEdgesTest::valueOfLetters);
        A.test("13: a ROW (9): how many places", TellingEdgesTest::valueOfRows);
        A.test("13: UNKNOWN", TellingEdgesTest::valueUnknown);
        A.test("13: OUTSIDE: kind 0 .. 9", TellingEdgesTest::valueOutside);
        A.test("13: CAUSES: NOTHING is held by the HAND", TellingEdgesTest::valueOfNothing);
        A.test("13: CAUSES: MISFIT", TellingEdgesTest::valueMisfits);
        A.test("14: What the LETTER weighs", TellingEdgesTest::weightOfLetters);
        A.test("14: UNKNOWN", TellingEdgesTest::weightUnknown);
        A.test("14: CAUSES: NOTHING is held by the HAND", TellingEdgesTest::weightOfNothing);
        A.test("14: CAUSES: MISFIT", TellingEdgesTest::weightMisfits);
        A.test("15: Place i told as a KIND, the first and the last", TellingEdgesTest::tellEnds);
        A.test("15: UNKNOWN", TellingEdgesTest::tellUnknown);
        A.test("15: OUTSIDE: kind 0 .. 7", TellingEdgesTest::tellOutside);
        A.test("15: CAUSES: NOTHING", TellingEdgesTest::tellNothing);
        A.test("15: MISFIT, if it holds no ROW of numbers, before PLACE", TellingEdgesTest::tellNoNumbers);
        A.test("15: PLACE, before MISFIT of its KIND", TellingEdgesTest::tellNoPlace);
        A.test("15: MISFIT (its KIND does not go into this)", TellingEdgesTest::tellNoSuchKind);
        A.test("16: How many places a CASE has", TellingEdgesTest::placesOfRows);
        A.test("16: UNKNOWN", TellingEdgesTest::placesUnknown);
        A.test("16: CAUSES: NOTHING", TellingEdgesTest::placesOfNothing);
        A.test("16: CAUSES: MISFIT", TellingEdgesTest::placesOfALetter);
        A.test("17: 0 .. 10 a ROW", TellingEdgesTest::sortOfRows);
        A.test("17: 11 a LETTER", TellingEdgesTest::sortOfALetter);
        A.test("17: 12 nothing", TellingEdgesTest::sortOfNothing);
        A.test("17: UNKNOWN", TellingEdgesTest::sortUnknown);
        A.test("23: 0: none, at first", TellingEdgesTest::failedAtFirst);
        A.test("23: The CAUSE of the latest call", TellingEdgesTest::failedOfTheLatest);
        A.test("23: the latest call that has CAUSES: those that have none", TellingEdgesTest::failedOfOthers);
        A.test("23: 0: none, behind a call that does not fail", TellingEdgesTest::failedNoMore);
        A.test("23: failed() itself changes nothing", TellingEdgesTest::failedAgain);
        A.end();
    }

    private static void kindOfNumbers() {
        TypeCases x = Shop.filled();
        for (int kind = 0; kind <= 7; kind++) {
            x.number(2, kind, -1);
            A.due("kind", kind, x.kind(2));
        }
    }

    private static void kindOfLetters() {
        TypeCases x = Shop.filled();
        for (int letter = 0; letter < 4; letter++) {
            x.give(2, letter);
            A.due("letter " + letter, 8, x.kind(2));
        }
    }

    private static void kindOfRows() {
        for (int sort = 0; sort <= 10; sort++) {
            TypeCases x = new TypeCases();
            x.hold(0, sort, 0);
            x.lift(0, 0);
            A.due("a row of sort " + sort, 9, x.kind(0));
        }
    }

    private static void kindOfNothing() {
        TypeCases x = Shop.filled();
        A.due("at first", 12, x.kind(3));
        x.give(0, -1);
        A.due("given", 12, x.kind(0));
        x.lift(1, 1);
        A.due("lifted", 12, x.kind(1));
        x.take(2, 8, 2);
        A.due("taken", 12, x.kind(2));
    }

    private static void kindUnknown() {
        TypeCases x = Shop.filled();
        for (int h : new int[] {-1, 4, Shop.LOW, Shop.HIGH}) {
            A.due("hand " + h, Shop.UNKNOWN, x.kind(h));
        }
    }

    private static void valueOfNumbers() {
        TypeCases x = new TypeCases();
        x.number(0, 3, -1);
        A.due(x, "a char", 65535, 0, x.value(0, 3));
        A.due(x, "as an int", 65535, 0, x.value(0, 4));
        A.due(x, "as a float", Shop.bits(65535f), 0, x.value(0, 6));
        A.due(x, "as a short", MISFIT, 2, x.value(0, 2));
        // Numbers that are answered like failures and refusals are answers.
        for (long number : new long[] {-1, -11, -12, -13, -1001, -1002, -1003}) {
            x.number(0, 5, number);
            A.due(x, "a long", number, 0, x.value(0, 5));
        }
    }

    private static void valueOfLetters() {
        TypeCases x = new TypeCases();
        for (int letter = 0; letter < 40; letter++) {
            x.letter(5, letter % 2 == 0);
            x.give(0, letter);
            A.due(x, "letter " + letter, letter, 0, x.value(0, 8));
        }
    }

    private static void valueOfRows() {
        for (int n = 0; n <= 20; n++) {
            TypeCases x = new TypeCases();
            x.hold(0, n % 11, n);
            x.lift(0, 0);
            A.due(x, "a row of " + n, n, 0, x.value(0, 9));
        }
    }

    private static void valueUnknown() {
        TypeCases x = Shop.filled();
        for (int h : new int[] {-1, 4, Shop.LOW, Shop.HIGH}) {
            A.due("hand " + h, Shop.UNKNOWN, x.value(h, 4));
        }
    }

    private static void valueOutside() {
        TypeCases x = Shop.filled();
        for (int h = 0; h < 4; h++) {
            for (int kind : new int[] {-1, 10, 12, Shop.LOW, Shop.HIGH}) {
                A.due("hand " + h + " as " + kind, Shop.OUTSIDE, x.value(h, kind));
            }
        }
    }

    private static void valueOfNothing() {
        TypeCases x = Shop.filled();
        for (int kind = 0; kind <= 9; kind++) {
            A.due(x, "as " + kind, NOTHING, 1, x.value(3, kind));
        }
    }

    private static void valueMisfits() {
        TypeCases x = Shop.filled();
        for (int kind = 0; kind <= 9; kind++) {
            if (kind != 8) {
                A.due(x, "a letter as " + kind, MISFIT, 2, x.value(1, kind));
            }
            if (kind != 9) {
                A.due(x, "a row as " + kind, MISFIT, 2, x.value(2, kind));
            }
        }
        for (int kind = 0; kind <= 7; kind++) {
            x.number(0, kind, 0);
            A.due(x, "a number as a letter", MISFIT, 2, x.value(0, 8));
            A.due(x, "a number as a row", MISFIT, 2, x.value(0, 9));
        }
    }

    private static void weightOfLetters() {
        TypeCases x = Shop.filled();
        int[] due = {7, 32, 0, 30005};
        for (int letter = 0; letter < 4; letter++) {
            x.give(3, letter);
            A.due(x, "letter " + letter, due[letter], 0, x.weight(3));
        }
    }

    private static void weightUnknown() {
        TypeCases x = Shop.filled();
        for (int h : new int[] {-1, 4, Shop.LOW, Shop.HIGH}) {
            A.due("hand " + h, Shop.UNKNOWN, x.weight(h));
        }
    }

    private static void weightOfNothing() {
        TypeCases x = Shop.filled();
        A.due(x, "nothing", NOTHING, 1, x.weight(3));
        x.give(1, -1);
        A.due(x, "a letter no more", NOTHING, 1, x.weight(1));
    }

    private static void weightMisfits() {
        TypeCases x = Shop.filled();
        A.due(x, "a row", MISFIT, 2, x.weight(2));
        for (int kind = 0; kind <= 7; kind++) {
            x.number(1, kind, 1);
            A.due(x, "a number", MISFIT, 2, x.weight(1));
        }
    }

    private static void tellEnds() {
        for (int kind = 0; kind <= 7; kind++) {
            TypeCases x = new TypeCases();
            x.hold(0, kind, 20);
            x.number(0, kind, 1);
            x.put(0, 0, 0);
            x.put(0, 0, 19);
            A.due(x, "the first, kind " + kind, 1, 0, x.tell(0, 0, kind));
            A.due(x, "behind it, kind " + kind, 0, 0, x.tell(0, 1, kind));
            A.due(x, "the last, kind " + kind, 1, 0, x.tell(0, 19, kind));
            A.due(x, "behind it, kind " + kind, PLACE, 3, x.tell(0, 20, kind));
        }
    }

    private static void tellUnknown() {
        TypeCases x = Shop.filled();
        for (int c : new int[] {-1, 12, Shop.LOW, Shop.HIGH}) {
            A.due("case " + c, Shop.UNKNOWN, x.tell(c, 0, 4));
        }
    }

    private static void tellOutside() {
        TypeCases x = Shop.filled();
        for (int c = 0; c < 12; c++) {
            for (int kind : new int[] {-1, 8, 9, Shop.LOW, Shop.HIGH}) {
                A.due("case " + c + " as " + kind, Shop.OUTSIDE, x.tell(c, 0, kind));
            }
        }
    }

    private static void tellNothing() {
        TypeCases x = Shop.filled();
        for (int kind = 0; kind <= 7; kind++) {
            A.due(x, "as " + kind, NOTHING, 1, x.tell(1, 0, kind));
            A.due(x, "no place, as " + kind, NOTHING, 1, x.tell(1, -1, kind));
        }
    }

    private static void tellNoNumbers() {
        for (int c = 8; c <= 11; c++) {
            TypeCases x = Shop.filled();
            for (int i : new int[] {0, 2, 3, -1, Shop.LOW, Shop.HIGH}) {
                A.due(x, "case " + c + ", place " + i, MISFIT, 2, x.tell(c, i, 3));
            }
        }
        TypeCases x = new TypeCases();
        x.hold(0, 10, 0);
        A.due(x, "no lines", MISFIT, 2, x.tell(0, 0, 3));
    }

    private static void tellNoPlace() {
        for (int kind = 0; kind <= 7; kind++) {
            for (int as = 0; as <= 7; as++) {
                TypeCases x = new TypeCases();
                x.hold(0, kind, 2);
                for (int i : new int[] {2, -1, 20, Shop.LOW, Shop.HIGH}) {
                    A.due(x, kind + " as " + as + ", place " + i, PLACE, 3, x.tell(0, i, as));
                }
                x.hold(0, kind, 0);
                A.due(x, kind + " as " + as + ", no places", PLACE, 3, x.tell(0, 0, as));
            }
        }
    }

    private static void tellNoSuchKind() {
        TypeCases x = Shop.filled();
        A.due(x, "a truth as an int", MISFIT, 2, x.tell(0, 0, 4));
        A.due(x, "a short as a byte", MISFIT, 2, x.tell(2, 0, 1));
        A.due(x, "a short as a char", MISFIT, 2, x.tell(2, 0, 3));
        A.due(x, "a char as a short", MISFIT, 2, x.tell(3, 0, 2));
        A.due(x, "an int as a char", MISFIT, 2, x.tell(4, 0, 3));
        A.due(x, "a long as an int", MISFIT, 2, x.tell(5, 0, 4));
        A.due(x, "a float as a long", MISFIT, 2, x.tell(6, 0, 5));
        A.due(x, "a double as a float", MISFIT, 2, x.tell(7, 0, 6));
        A.due(x, "a double as a truth", MISFIT, 2, x.tell(7, 0, 0));
    }

    private static void placesOfRows() {
        for (int sort = 0; sort <= 10; sort++) {
            TypeCases x = new TypeCases();
            for (int n = 0; n <= 20; n++) {
                x.hold(0, sort, n);
                A.due(x, "sort " + sort, n, 0, x.places(0));
            }
        }
    }

    private static void placesUnknown() {
        TypeCases x = Shop.filled();
        for (int c : new int[] {-1, 12, Shop.LOW, Shop.HIGH}) {
            A.due("case " + c, Shop.UNKNOWN, x.places(c));
        }
    }

    private static void placesOfNothing() {
        TypeCases x = Shop.filled();
        A.due(x, "at first", NOTHING, 1, x.places(1));
        x.hold(4, 12, 3);
        A.due(x, "a row no more", NOTHING, 1, x.places(4));
    }

    private static void placesOfALetter() {
        TypeCases x = Shop.filled();
        A.due(x, "a letter", MISFIT, 2, x.places(11));
        x.set(11, 1);
        A.due(x, "a capital", MISFIT, 2, x.places(11));
    }

    private static void sortOfRows() {
        TypeCases x = new TypeCases();
        for (int sort = 0; sort <= 10; sort++) {
            x.hold(0, sort, 0);
            A.due("without places", sort, x.sort(0));
            x.hold(0, sort, 20);
            A.due("with twenty", sort, x.sort(0));
        }
    }

    private static void sortOfALetter() {
        TypeCases x = Shop.filled();
        A.due("a letter", 11, x.sort(11));
        x.set(4, 1);
        A.due("a capital", 11, x.sort(4));
    }

    private static void sortOfNothing() {
        TypeCases x = Shop.filled();
        A.due("at first", 12, x.sort(1));
        x.hold(4, 12, 0);
        A.due("held", 12, x.sort(4));
        x.set(11, 3);
        A.due("set", 12, x.sort(11));
    }

    private static void sortUnknown() {
        TypeCases x = Shop.filled();
        for (int c : new int[] {-1, 12, Shop.LOW, Shop.HIGH}) {
            A.due("case " + c, Shop.UNKNOWN, x.sort(c));
        }
    }

    private static void failedAtFirst() {
        TypeCases x = new TypeCases();
        A.due("a new object", 0, x.failed());
        A.due("and again", 0, x.failed());
    }

    private static void failedOfTheLatest() {
        TypeCases x = Shop.filled();
        A.due(x, "NOTHING", NOTHING, 1, x.places(1));
        A.due(x, "PLACE", PLACE, 3, x.take(0, 4, 3));
        A.due(x, "MISFIT", MISFIT, 2, x.turn(11));
        A.due(x, "PLACE of spread, which answers", 2, 3, x.spread(4, 0, 3));
        A.due(x, "NOTHING", NOTHING, 1, x.weight(3));
        x.turn(8);
        A.due(x, "MISFIT of gather, which answers", 2, 2, x.gather(8, 0, 3, 9));
    }

    /** hold, letter, give, lift, number, kind and sort have no CAUSES: they leave what is told. */
    private static void failedOfOthers() {
        for (int cause = 1; cause <= 3; cause++) {
            TypeCases x = Shop.filled();
            long answer = cause == 1 ? x.places(1) : cause == 2 ? x.places(11) : x.take(0, 4, 3);
            A.due(x, "it fails", -10 - cause, cause, answer);
            A.due(x, "hold", 1, cause, x.hold(1, 4, 1));
            A.due(x, "hold nothing", 1, cause, x.hold(1, 12, 1));
            A.due(x, "letter", 4, cause, x.letter(1, true));
            A.due(x, "give", 1, cause, x.give(0, 0));
            A.due(x, "give nothing", 1, cause, x.give(0, -1));
            A.due(x, "lift", 1, cause, x.lift(0, 4));
            A.due(x, "lift nothing", 1, cause, x.lift(0, 1));
            A.due(x, "number", 1, cause, x.number(0, 4, 1));
            A.due(x, "kind", 4, cause, x.kind(0));
            A.due(x, "sort", 4, cause, x.sort(4));
        }
    }

    private static void failedNoMore() {
        Shop.Call[] fine = {x -> x.set(4, 1), x -> x.set(4, 3), x -> x.take(0, 4, 0), x -> x.put(0, 4, 0),
            x -> x.swap(0, 4, 0), x -> x.exchange(4, 0, 4, 1), x -> x.value(0, 1), x -> x.value(1, 8),
            x -> x.value(2, 9), x -> x.weight(1), x -> x.tell(4, 0, 4), x -> x.places(4), x -> x.turn(4),
            x -> x.order(4, 5), x -> x.order(7, 7), x -> x.spread(4, 0, 2), x -> x.spread(4, 0, 0),
            x -> x.gather(4, 0, 3, 5), x -> x.gather(4, 0, 0, 5), x -> x.find(0, 4), x -> x.find(1, 8)};
        for (int i = 0; i < fine.length; i++) {
            for (int cause = 1; cause <= 3; cause++) {
                TypeCases x = Shop.filled();
                long answer = cause == 1 ? x.places(1) : cause == 2 ? x.places(11) : x.take(0, 4, 3);
                A.due(x, "it fails", -10 - cause, cause, answer);
                fine[i].on(x);
                A.due("call " + i + " does not, then failed()", 0, x.failed());
            }
        }
    }

    private static void failedAgain() {
        TypeCases x = Shop.filled();
        x.take(0, 4, 3);
        for (int i = 0; i < 5; i++) {
            A.due("again", 3, x.failed());
        }
        A.same("failed()", Shop.seen(Shop.filled()), Shop.seen(x));
    }
}
