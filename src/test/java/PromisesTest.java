/** Each promise of the document by examples: ordinary calls, the edges it names, wrong arguments. */
public final class PromisesTest {
    private static final int NONE = -1, UNKNOWN = -1001, OUTSIDE = -1002, FULL = -1003;
    private static final int NOTHING = -11, MISFIT = -12, PLACE = -13;
    private static final int LOW = Integer.MIN_VALUE, HIGH = Integer.MAX_VALUE;
    private static final Answers A = new Answers("PromisesTest");

    public static void main(String[] args) {
        newObject();
        hold();
        letter();
        set();
        give();
        lift();
        number();
        take();
        put();
        putNothing();
        swap();
        exchange();
        exchangeBetweenSorts();
        kind();
        value();
        weight();
        tell();
        places();
        sort();
        turn();
        order();
        orderDoubles();
        orderMisfits();
        spread();
        gather();
        gatherStops();
        find();
        failed();
        failedNoMore();
        refusalsInOrder();
        A.end();
    }

    /** A row of longs in a case. */
    private static void longs(TypeCases x, int c, long... numbers) {
        row(x, c, 5, numbers);
    }

    private static void row(TypeCases x, int c, int kind, long... numbers) {
        A.due("row", 1, x.hold(c, kind, numbers.length));
        for (int i = 0; i < numbers.length; i++) {
            A.due("row's number", 1, x.number(3, kind, numbers[i]));
            A.due("row's place", 1, x.put(3, c, i));
        }
    }

    private static void stand(TypeCases x, String what, int c, int kind, long... numbers) {
        A.due(what + ": places", numbers.length, x.places(c));
        for (int i = 0; i < numbers.length; i++) {
            A.due(what + ": place " + i, numbers[i], x.tell(c, i, kind));
        }
    }

    /** The number of the letter at a place, NONE if nothing stands there. */
    private static long letterAt(TypeCases x, int c, int i) {
        A.due("letterAt", 1, x.take(3, c, i));
        return x.kind(3) == 12 ? NONE : x.value(3, 8);
    }

    /** Letters 0 and 2 are none of the capitals, 1 and 3 are. */
    private static TypeCases withLetters() {
        TypeCases x = new TypeCases();
        for (int i = 0; i < 4; i++) {
            A.due("letter " + i, i, x.letter(10 * i, i % 2 == 1));
        }
        return x;
    }

    private static void newObject() {
        TypeCases x = new TypeCases();
        A.due("failed at first", 0, x.failed());
        for (int c = 0; c < 12; c++) {
            A.due("sort at first", 12, x.sort(c));
        }
        for (int h = 0; h < 4; h++) {
            A.due("kind at first", 12, x.kind(h));
            A.due("no letters at first", UNKNOWN, x.give(h, 0));
        }
        A.due("the first letter", 0, x.letter(1, true));
        A.due("objects do not share", UNKNOWN, new TypeCases().give(0, 0));
    }

    private static void hold() {
        TypeCases x = new TypeCases();
        for (int sort = 0; sort <= 10; sort++) {
            A.due("hold " + sort, 1, x.hold(sort, sort, 20));
            A.due("sort " + sort, sort, x.sort(sort));
            A.due("places " + sort, 20, x.places(sort));
        }
        for (int kind = 0; kind <= 7; kind++) {
            A.due("0 at first", 0, x.tell(kind, 19, kind));
        }
        for (int c = 8; c <= 10; c++) {
            A.due("nothing at first", NONE, letterAt(x, c, 19));
        }
        A.due("no places", 1, x.hold(11, 4, 0));
        A.due("no places", 0, x.places(11));
        A.due("a new row", 1, x.hold(4, 4, 3));
        A.due("a new row", 3, x.places(4));
        A.due("nothing, n is not looked at", 1, x.hold(4, 12, LOW));
        A.due("nothing", 12, x.sort(4));
        A.due("too far a case", UNKNOWN, x.hold(12, 0, 0));
        A.due("case -1", UNKNOWN, x.hold(-1, 12, 0));
        A.due("case and sort", UNKNOWN, x.hold(LOW, 13, 21));
        A.due("sort 11", OUTSIDE, x.hold(0, 11, 1));
        A.due("sort 13", OUTSIDE, x.hold(0, 13, 1));
        A.due("sort -1", OUTSIDE, x.hold(0, -1, 1));
        A.due("21 places", OUTSIDE, x.hold(0, 0, 21));
        A.due("-1 places", OUTSIDE, x.hold(0, 0, -1));
        A.due("refused, so as before", 20, x.places(0));
        A.due("its row", 1, x.lift(0, 1));
        A.due("another", 1, x.hold(1, 1, 5));
        A.due("the hand has the old row", 20, x.value(0, 9));
    }

    private static void letter() {
        TypeCases x = new TypeCases();
        A.due("width -1", OUTSIDE, x.letter(-1, false));
        A.due("width 10001", OUTSIDE, x.letter(10001, true));
        for (int i = 0; i < 40; i++) {
            A.due("letter", i, x.letter(i == 39 ? 10000 : i, i % 2 == 0));
        }
        A.due("the 41st", FULL, x.letter(0, false));
        A.due("OUTSIDE before FULL", OUTSIDE, x.letter(LOW, false));
        A.due("the last one", 1, x.give(0, 39));
        A.due("the last one weighs", 10000, x.weight(0));
        A.due("no 41st", UNKNOWN, x.give(0, 40));
    }

    private static void set() {
        TypeCases x = withLetters();
        x.give(0, 2);
        A.due(x, "a letter", 1, 0, x.set(5, 0));
        A.due("a letter", 11, x.sort(5));
        longs(x, 1, 4, 5, 6);
        x.lift(1, 1);
        A.due(x, "a row", 1, 0, x.set(5, 1));
        x.number(2, 5, 77);
        x.put(2, 5, 1);
        stand(x, "it is one row in two cases", 1, 5, 4, 77, 6);
        A.due(x, "a number", MISFIT, 2, x.set(5, 2));
        A.due("it holds the row still", 5, x.sort(5));
        x.give(2, 1);
        x.number(2, 5, 77);
        A.due("a number where a letter was held", MISFIT, x.weight(2));
        x.give(2, NONE);
        A.due(x, "nothing", 1, 0, x.set(5, 2));
        A.due("nothing", 12, x.sort(5));
        A.due("the other case has it still", 5, x.sort(1));
        A.due("no case", UNKNOWN, x.set(12, 0));
        A.due("no case", UNKNOWN, x.set(-1, 0));
        A.due("no hand", UNKNOWN, x.set(0, 4));
        A.due("no hand", UNKNOWN, x.set(0, -1));
    }

    private static void give() {
        TypeCases x = withLetters();
        A.due("a letter", 1, x.give(0, 3));
        A.due("a letter", 3, x.value(0, 8));
        A.due("no letter 4", UNKNOWN, x.give(0, 4));
        A.due("no letter -2", UNKNOWN, x.give(0, -2));
        A.due("no hand", UNKNOWN, x.give(4, 0));
        A.due("no hand", UNKNOWN, x.give(-1, NONE));
        A.due("as before", 3, x.value(0, 8));
        A.due("nothing", 1, x.give(0, NONE));
        A.due("nothing", 12, x.kind(0));
    }

    private static void lift() {
        TypeCases x = withLetters();
        x.give(0, 1);
        x.set(3, 0);
        A.due("a letter", 1, x.lift(1, 3));
        A.due("a letter", 1, x.value(1, 8));
        A.due("a row", 1, x.hold(4, 10, 6));
        A.due("a row", 1, x.lift(1, 4));
        A.due("a row", 6, x.value(1, 9));
        A.due("the case has it still", 10, x.sort(4));
        A.due("nothing", 1, x.lift(1, 9));
        A.due("nothing", 12, x.kind(1));
        A.due("no case", UNKNOWN, x.lift(0, 12));
        A.due("no case", UNKNOWN, x.lift(0, -1));
        A.due("no hand", UNKNOWN, x.lift(4, 0));
        A.due("no hand", UNKNOWN, x.lift(-1, 0));
    }

    private static void number() {
        TypeCases x = new TypeCases();
        long[] told = {1, -1, -1, 65535, -1, -1, 0x7fc00000L, 0x7ff8000000000000L};
        for (int kind = 0; kind <= 7; kind++) {
            A.due("number", 1, x.number(1, kind, -1));
            A.due("its kind", kind, x.kind(1));
            A.due("all bits of kind " + kind, told[kind], x.value(1, kind));
        }
        x.number(1, 0, 6);
        A.due("the lowest bit alone", 0, x.value(1, 0));
        x.number(1, 1, 0x1280);
        A.due("the lowest 8", -128, x.value(1, 1));
        x.number(1, 2, 0x128000);
        A.due("the lowest 16", -32768, x.value(1, 2));
        x.number(1, 3, 0x128000);
        A.due("the lowest 16 of a char", 32768, x.value(1, 3));
        x.number(1, 4, 0x1280000000L);
        A.due("the lowest 32", Integer.MIN_VALUE, x.value(1, 4));
        x.number(1, 6, 0x1280000000L);
        A.due("-0.0f", Integer.MIN_VALUE, x.value(1, 6));
        x.number(1, 7, Long.MIN_VALUE);
        A.due("-0.0", Long.MIN_VALUE, x.value(1, 7));
        x.number(1, 7, 0xfff0000000000000L);
        A.due("below all", 0xfff0000000000000L, x.value(1, 7));
        A.due("no hand", UNKNOWN, x.number(4, 0, 0));
        A.due("no hand, no kind", UNKNOWN, x.number(-1, 8, 0));
        A.due("kind 8", OUTSIDE, x.number(0, 8, 0));
        A.due("kind -1", OUTSIDE, x.number(0, -1, 0));
        A.due("refused", 12, x.kind(0));
    }

    private static void take() {
        TypeCases x = withLetters();
        row(x, 0, 2, 7, -8);
        A.due(x, "the row's kind", 1, 0, x.take(0, 0, 1));
        A.due("the row's kind", 2, x.kind(0));
        A.due("the number", -8, x.value(0, 4));
        A.due("it stands there still", -8, x.tell(0, 1, 2));
        x.hold(1, 8, 2);
        x.give(1, 2);
        x.put(1, 1, 0);
        A.due("a letter", 1, x.take(0, 1, 0));
        A.due("a letter", 2, x.value(0, 8));
        A.due(x, "no such place", PLACE, 3, x.take(0, 1, 2));
        A.due("no such place", PLACE, x.take(0, 1, -1));
        A.due("no such place", PLACE, x.take(0, 1, LOW));
        A.due("no such place", PLACE, x.take(0, 1, HIGH));
        A.due(x, "no row", NOTHING, 1, x.take(0, 2, -1));
        x.set(3, 1);
        A.due(x, "a letter is no row", MISFIT, 2, x.take(0, 3, -1));
        A.due("it holds what it held", 2, x.value(0, 8));
        A.due("nothing stands there", 1, x.take(0, 1, 1));
        A.due("nothing", 12, x.kind(0));
        A.due("no hand", UNKNOWN, x.take(4, 0, 0));
        A.due("no case", UNKNOWN, x.take(0, 12, 0));
    }

    private static void put() {
        TypeCases x = withLetters();
        x.hold(0, 7, 2);
        x.number(0, 5, (1L << 53) + 1);
        A.due(x, "a long as a double", 1, 0, x.put(0, 0, 1));
        A.due("the even one of two as near", Double.doubleToLongBits(9007199254740992.0), x.tell(0, 1, 7));
        A.due("the hand holds it still", (1L << 53) + 1, x.value(0, 5));
        x.hold(1, 10, 2);
        x.hold(2, 3, 0);
        x.lift(1, 2);
        A.due("a row of chars into lines", 1, x.put(1, 1, 0));
        x.hold(2, 2, 3);
        x.lift(1, 2);
        A.due(x, "a row of shorts into lines", MISFIT, 2, x.put(1, 1, 0));
        A.due("lines into lines", 1, x.lift(1, 1));
        A.due("lines into lines", MISFIT, x.put(1, 1, 0));
        x.take(1, 1, 0);
        A.due("as before", 0, x.value(1, 9));
        x.give(2, 0);
        x.give(3, 1);
        x.hold(3, 9, 2);
        A.due("a capital into capitals", 1, x.put(3, 3, 0));
        A.due("a letter into capitals", MISFIT, x.put(2, 3, 1));
        A.due("a letter into lines", MISFIT, x.put(2, 1, 1));
        A.due("PLACE before the last MISFIT", PLACE, x.put(2, 1, 2));
        A.due("PLACE before the last MISFIT", PLACE, x.put(2, 0, -1));
        A.due("a letter into numbers", MISFIT, x.put(2, 0, 0));
        A.due("a number into letters", MISFIT, x.put(0, 3, 0));
        A.due(x, "into nothing", NOTHING, 1, x.put(0, 11, 99));
        x.set(10, 2);
        A.due(x, "into a letter", MISFIT, 2, x.put(0, 10, 99));
        A.due("no hand", UNKNOWN, x.put(-1, 0, 0));
        A.due("no case", UNKNOWN, x.put(0, -1, 0));
    }

    private static void putNothing() {
        TypeCases x = withLetters();
        for (int sort = 0; sort <= 7; sort++) {
            x.hold(0, sort, 1);
            A.due("nothing into numbers", MISFIT, x.put(0, 0, 0));
            A.due("nothing into numbers, MISFIT before PLACE", MISFIT, x.put(0, 0, 1));
        }
        for (int sort = 8; sort <= 10; sort++) {
            x.hold(0, sort, 1);
            A.due("nothing fits", 1, x.put(0, 0, 0));
            A.due("but not there", PLACE, x.put(0, 0, 1));
        }
        x.hold(0, 9, 1);
        x.give(1, 1);
        x.put(1, 0, 0);
        A.due("nothing over a capital", 1, x.put(0, 0, 0));
        A.due("nothing over a capital", NONE, letterAt(x, 0, 0));
    }

    private static void swap() {
        TypeCases x = withLetters();
        longs(x, 0, 5, 6);
        x.number(0, 1, -2);
        A.due(x, "swap", 1, 0, x.swap(0, 0, 1));
        A.due("what stood there", 6, x.value(0, 5));
        A.due("of the row's kind", 5, x.kind(0));
        stand(x, "swapped", 0, 5, 5, -2);
        x.number(0, 6, 0);
        A.due(x, "a float into longs", MISFIT, 2, x.swap(0, 0, 1));
        A.due("the hand is as it was", 6, x.kind(0));
        stand(x, "as it was", 0, 5, 5, -2);
        x.give(0, NONE);
        A.due(x, "READ before WRITE: PLACE", PLACE, 3, x.swap(0, 0, 2));
        A.due(x, "nothing into numbers", MISFIT, 2, x.swap(0, 0, 0));
        x.hold(1, 9, 1);
        x.give(0, 3);
        x.number(1, 4, 0);
        A.due("a number into capitals", MISFIT, x.swap(1, 1, 0));
        A.due("a capital for nothing", 1, x.swap(0, 1, 0));
        A.due("nothing", 12, x.kind(0));
        A.due("nothing for a capital", 1, x.swap(0, 1, 0));
        A.due("the capital", 3, x.value(0, 8));
        A.due(x, "no row", NOTHING, 1, x.swap(0, 2, 0));
        x.set(2, 0);
        A.due(x, "a letter", MISFIT, 2, x.swap(0, 2, 0));
        A.due("no hand", UNKNOWN, x.swap(4, 0, 0));
        A.due("no case", UNKNOWN, x.swap(0, 12, 0));
    }

    private static void exchange() {
        TypeCases x = new TypeCases();
        longs(x, 0, 1, 2, 3);
        longs(x, 1, 10, 20);
        A.due(x, "two cases", 1, 0, x.exchange(0, 2, 1, 0));
        stand(x, "first", 0, 5, 1, 2, 10);
        stand(x, "second", 1, 5, 3, 20);
        A.due("one case", 1, x.exchange(0, 0, 0, 2));
        stand(x, "one case", 0, 5, 10, 2, 1);
        A.due("one place", 1, x.exchange(0, 1, 0, 1));
        stand(x, "one place", 0, 5, 10, 2, 1);
        A.due(x, "no place in the first", PLACE, 3, x.exchange(0, 3, 1, 0));
        A.due("no place in the second", PLACE, x.exchange(0, 0, 1, 2));
        A.due("the first is read first", PLACE, x.exchange(0, -1, 5, 0));
        A.due("the first is read first", NOTHING, x.exchange(5, 0, 0, -1));
        A.due(x, "nothing in the second", NOTHING, 1, x.exchange(0, 0, 5, 0));
        A.due("no case", UNKNOWN, x.exchange(0, 0, 12, 0));
        A.due("no case", UNKNOWN, x.exchange(-1, 0, 0, 0));
        stand(x, "as before", 0, 5, 10, 2, 1);
    }

    private static void exchangeBetweenSorts() {
        TypeCases x = withLetters();
        row(x, 0, 4, 7);
        row(x, 1, 5, 9);
        A.due(x, "an int for a long", MISFIT, 2, x.exchange(0, 0, 1, 0));
        stand(x, "the second has its own again", 1, 5, 9);
        stand(x, "the first has its own", 0, 4, 7);
        A.due("a long for an int", MISFIT, x.exchange(1, 0, 0, 0));
        stand(x, "as before", 1, 5, 9);
        x.hold(2, 8, 2);
        x.hold(3, 9, 2);
        x.give(0, 0);
        x.put(0, 2, 0);
        x.give(0, 1);
        x.put(0, 2, 1);
        x.give(0, 3);
        x.put(0, 3, 0);
        A.due("capitals", 1, x.exchange(2, 1, 3, 0));
        A.due("capitals", 3, letterAt(x, 2, 1));
        A.due("capitals", 1, letterAt(x, 3, 0));
        A.due("a letter for a capital", MISFIT, x.exchange(2, 0, 3, 0));
        A.due(x, "a capital for a letter", MISFIT, 2, x.exchange(3, 0, 2, 0));
        A.due("the second has its own again", 0, letterAt(x, 2, 0));
        A.due("nothing for a letter", MISFIT, x.exchange(3, 1, 2, 0));
        A.due("the second has its own again", 0, letterAt(x, 2, 0));
        A.due("nothing for a capital", 1, x.exchange(3, 1, 2, 1));
        A.due("the capital", 3, letterAt(x, 3, 1));
        A.due("nothing", NONE, letterAt(x, 2, 1));
        A.due("nothing for a number", MISFIT, x.exchange(2, 1, 0, 0));
        A.due("a number for nothing", MISFIT, x.exchange(0, 0, 2, 1));
        x.set(4, 0);
        A.due(x, "a letter is no row", MISFIT, 2, x.exchange(4, 0, 11, 0));
    }

    private static void kind() {
        TypeCases x = withLetters();
        A.due("nothing", 12, x.kind(3));
        for (int kind = 0; kind <= 7; kind++) {
            x.number(3, kind, 1);
            A.due("a number", kind, x.kind(3));
        }
        x.give(3, 1);
        A.due("a capital", 8, x.kind(3));
        x.hold(0, 0, 1);
        x.lift(3, 0);
        A.due("a row", 9, x.kind(3));
        A.due("no hand", UNKNOWN, x.kind(4));
        A.due("no hand", UNKNOWN, x.kind(-1));
    }

    private static void value() {
        TypeCases x = withLetters();
        String[] goes = {"0", "124567", "24567", "34567", "4567", "567", "67", "7"};
        for (int kind = 0; kind <= 7; kind++) {
            x.number(0, kind, 1);
            for (int as = 0; as <= 9; as++) {
                boolean fits = goes[kind].indexOf('0' + as) >= 0;
                long answer = x.value(0, as);
                A.due(kind + " into " + as, fits ? 0 : 2, x.failed());
                A.due(kind + " into " + as, fits ? 0 : MISFIT, fits ? 0 : answer);
            }
        }
        x.number(0, 3, 65535);
        A.due("a char as a float", Float.floatToIntBits(65535f), x.value(0, 6));
        x.number(0, 6, Float.floatToIntBits(-0.1f));
        A.due("a float as a double", Double.doubleToLongBits(-0.1f), x.value(0, 7));
        x.number(0, 5, Long.MAX_VALUE);
        A.due("the nearest float", Float.floatToIntBits(9.223372036854775807e18f), x.value(0, 6));
        x.give(0, 2);
        A.due(x, "a letter", 2, 0, x.value(0, 8));
        A.due(x, "a letter as a row", MISFIT, 2, x.value(0, 9));
        A.due("a letter as an int", MISFIT, x.value(0, 4));
        x.hold(0, 9, 13);
        x.lift(0, 0);
        A.due(x, "a row", 13, 0, x.value(0, 9));
        A.due("a row as a letter", MISFIT, x.value(0, 8));
        A.due("a row as a long", MISFIT, x.value(0, 5));
        A.due(x, "nothing", NOTHING, 1, x.value(1, 9));
        A.due("no hand", UNKNOWN, x.value(4, 10));
        A.due("no hand", UNKNOWN, x.value(-1, 0));
        A.due("kind 10", OUTSIDE, x.value(0, 10));
        A.due("kind -1", OUTSIDE, x.value(1, -1));
    }

    private static void weight() {
        TypeCases x = withLetters();
        x.give(0, 2);
        A.due(x, "a letter", 20, 0, x.weight(0));
        x.give(0, 3);
        A.due("a capital", 95, x.weight(0));
        A.due("the widest capital", 4, x.letter(10000, true));
        x.give(0, 4);
        A.due("the widest capital", 30005, x.weight(0));
        x.give(0, 0);
        A.due("width 0", 0, x.weight(0));
        A.due(x, "nothing", NOTHING, 1, x.weight(1));
        x.number(1, 4, 3);
        A.due(x, "a number", MISFIT, 2, x.weight(1));
        x.hold(0, 8, 1);
        x.lift(1, 0);
        A.due("a row", MISFIT, x.weight(1));
        A.due("no hand", UNKNOWN, x.weight(4));
        A.due("no hand", UNKNOWN, x.weight(-1));
    }

    private static void tell() {
        TypeCases x = withLetters();
        row(x, 0, 1, -5, 6);
        A.due(x, "own kind", -5, 0, x.tell(0, 0, 1));
        A.due("as a double", Double.doubleToLongBits(-5.0), x.tell(0, 0, 7));
        A.due(x, "as a char", MISFIT, 2, x.tell(0, 0, 3));
        A.due(x, "PLACE before that", PLACE, 3, x.tell(0, 2, 3));
        A.due("place -1", PLACE, x.tell(0, -1, 1));
        A.due("far places", PLACE, x.tell(0, HIGH, 1));
        row(x, 1, 0, 1);
        A.due("a truth", 1, x.tell(1, 0, 0));
        A.due("a truth as an int", MISFIT, x.tell(1, 0, 4));
        x.hold(2, 10, 1);
        A.due("lines, before PLACE", MISFIT, x.tell(2, 5, 3));
        x.give(0, 0);
        x.set(2, 0);
        A.due("a letter", MISFIT, x.tell(2, 0, 3));
        A.due(x, "nothing", NOTHING, 1, x.tell(3, 0, 0));
        A.due("no case", UNKNOWN, x.tell(12, 0, 8));
        A.due("no case", UNKNOWN, x.tell(-1, 0, 0));
        A.due("kind 8", OUTSIDE, x.tell(0, 0, 8));
        A.due("kind -1", OUTSIDE, x.tell(3, 0, -1));
    }

    private static void places() {
        TypeCases x = withLetters();
        x.hold(0, 10, 20);
        A.due(x, "lines", 20, 0, x.places(0));
        A.due(x, "nothing", NOTHING, 1, x.places(1));
        x.give(0, 0);
        x.set(1, 0);
        A.due(x, "a letter", MISFIT, 2, x.places(1));
        A.due("no case", UNKNOWN, x.places(12));
        A.due("no case", UNKNOWN, x.places(-1));
    }

    private static void sort() {
        TypeCases x = withLetters();
        for (int sort = 0; sort <= 10; sort++) {
            x.hold(11, sort, 0);
            A.due("a row", sort, x.sort(11));
        }
        x.give(0, 1);
        x.set(11, 0);
        A.due("a letter", 11, x.sort(11));
        x.hold(11, 12, 0);
        A.due("nothing", 12, x.sort(11));
        A.due("no case", UNKNOWN, x.sort(12));
        A.due("no case", UNKNOWN, x.sort(-1));
    }

    private static void turn() {
        TypeCases x = withLetters();
        longs(x, 0, 1, 2, 3);
        A.due(x, "three", 3, 0, x.turn(0));
        stand(x, "three", 0, 5, 3, 2, 1);
        longs(x, 0, 1, 2, 3, 4);
        A.due("four", 4, x.turn(0));
        stand(x, "four", 0, 5, 4, 3, 2, 1);
        x.hold(1, 9, 3);
        x.give(0, 1);
        x.put(0, 1, 0);
        A.due("capitals", 3, x.turn(1));
        A.due("capitals", 1, letterAt(x, 1, 2));
        A.due("capitals", NONE, letterAt(x, 1, 0));
        x.hold(2, 8, 0);
        A.due("no places", 0, x.turn(2));
        A.due(x, "nothing", NOTHING, 1, x.turn(3));
        x.set(3, 0);
        A.due(x, "a letter", MISFIT, 2, x.turn(3));
        A.due("no case", UNKNOWN, x.turn(12));
        A.due("no case", UNKNOWN, x.turn(-1));
    }

    private static void order() {
        TypeCases x = new TypeCases();
        longs(x, 0, 3, Long.MIN_VALUE, Long.MAX_VALUE, -1, 3, 4);
        A.due(x, "longs", 4, 0, x.order(0, 5));
        stand(x, "longs", 0, 5, Long.MIN_VALUE, -1, 3, 3, 4, Long.MAX_VALUE);
        A.due("in order", 0, x.order(0, 5));
        row(x, 1, 3, 65535, 2, 40000);
        A.due("chars from 0 on", 2, x.order(1, 5));
        stand(x, "chars", 1, 3, 2, 40000, 65535);
        row(x, 1, 1, 5, -128, 127);
        A.due("bytes as doubles", 1, x.order(1, 7));
        stand(x, "bytes", 1, 1, -128, 5, 127);
        // As doubles these are like ones, as longs they are not.
        longs(x, 2, (1L << 53) + 1, 1L << 53, 1);
        A.due("longs as doubles", 1, x.order(2, 7));
        stand(x, "as they stood", 2, 5, 1, (1L << 53) + 1, 1L << 53);
        A.due("longs as longs", 1, x.order(2, 5));
        stand(x, "as longs", 2, 5, 1, 1L << 53, (1L << 53) + 1);
        longs(x, 3, 20, 19, 18, 17, 16, 15, 14, 13, 12, 11, 10, 9, 8, 7, 6, 5, 4, 3, 2, 1);
        A.due("twenty", 19, x.order(3, 5));
        stand(x, "twenty", 3, 5, 1, 2, 3, 4, 5, 6, 7, 8, 9, 10, 11, 12, 13, 14, 15, 16, 17, 18, 19, 20);
    }

    private static void orderDoubles() {
        TypeCases x = new TypeCases();
        long none = Double.doubleToLongBits(Double.NaN);
        long most = Double.doubleToLongBits(Double.POSITIVE_INFINITY);
        long least = Double.doubleToLongBits(Double.NEGATIVE_INFINITY);
        long small = Double.doubleToLongBits(-Double.MIN_VALUE);
        row(x, 0, 7, none, most, 0, Long.MIN_VALUE, least, 0, small);
        A.due("doubles", 6, x.order(0, 7));
        stand(x, "doubles", 0, 7, least, small, 0, Long.MIN_VALUE, 0, most, none);
        long half = Float.floatToIntBits(0.5f);
        long below = Float.floatToIntBits(-0.5f);
        row(x, 1, 6, half, 0x7fc00001L, Integer.MIN_VALUE, 0, below);
        A.due("floats", 3, x.order(1, 7));
        stand(x, "floats", 1, 6, below, Integer.MIN_VALUE, 0, half, 0x7fc00000L);
        A.due(x, "floats as longs", MISFIT, 2, x.order(1, 5));
    }

    private static void orderMisfits() {
        TypeCases x = withLetters();
        A.due(x, "nothing", NOTHING, 1, x.order(0, 5));
        for (int sort : new int[] {0, 8, 9, 10}) {
            x.hold(0, sort, 1);
            A.due(x, "sort " + sort, MISFIT, 2, x.order(0, 5));
            A.due("sort " + sort, MISFIT, x.order(0, 7));
        }
        for (int sort = 0; sort <= 10; sort++) {
            x.hold(0, sort, 0);
            A.due(x, "without places " + sort, 0, 0, x.order(0, 5));
        }
        x.give(0, 0);
        x.set(0, 0);
        A.due("a letter", MISFIT, x.order(0, 7));
        A.due("no case", UNKNOWN, x.order(12, 6));
        A.due("no case", UNKNOWN, x.order(-1, 5));
        for (int kind : new int[] {-1, 0, 4, 6, 8, LOW, HIGH}) {
            A.due("kind " + kind, OUTSIDE, x.order(1, kind));
        }
    }

    private static void spread() {
        TypeCases x = withLetters();
        longs(x, 0, 1, 2, 3, 4, 5);
        A.due(x, "two", 2, 0, x.spread(0, 1, 2));
        stand(x, "two", 0, 5, 1, 2, 2, 2, 5);
        A.due(x, "none", 0, 0, x.spread(0, 0, 0));
        A.due(x, "to the last", 1, 0, x.spread(0, 3, 1));
        A.due(x, "beyond", 4, 3, x.spread(0, 0, 100));
        stand(x, "beyond", 0, 5, 1, 1, 1, 1, 1);
        A.due(x, "from the last", 0, 3, x.spread(0, 4, 1));
        A.due(x, "no such place, n = 0", PLACE, 3, x.spread(0, 5, 0));
        A.due("place -1", PLACE, x.spread(0, -1, 3));
        A.due("place far", PLACE, x.spread(0, HIGH, 100));
        A.due(x, "nothing", NOTHING, 1, x.spread(1, 0, 0));
        x.hold(2, 8, 3);
        x.give(0, 2);
        x.put(0, 2, 1);
        A.due("nothing is spread", 2, x.spread(2, 0, 2));
        A.due("nothing", NONE, letterAt(x, 2, 1));
        x.put(0, 2, 0);
        A.due("a letter is spread", 2, x.spread(2, 0, 2));
        A.due("a letter", 2, letterAt(x, 2, 2));
        x.set(2, 0);
        A.due(x, "a letter is no row", MISFIT, 2, x.spread(2, 0, 1));
        A.due("no case", UNKNOWN, x.spread(12, 0, 101));
        A.due("no case", UNKNOWN, x.spread(-1, 0, 0));
        A.due("n 101", OUTSIDE, x.spread(0, 0, 101));
        A.due("n -1", OUTSIDE, x.spread(0, 0, -1));
    }

    private static void gather() {
        TypeCases x = withLetters();
        row(x, 0, 2, 1, -2, 3, -4);
        x.hold(1, 4, 3);
        A.due(x, "shorts into ints", 2, 0, x.gather(0, 1, 2, 1));
        stand(x, "ints", 1, 4, -2, 3, 0);
        A.due("the same case", 3, x.gather(0, 1, 3, 0));
        stand(x, "the same case", 0, 2, -2, 3, -4, -4);
        A.due("onto itself", 4, x.gather(0, 0, 4, 0));
        stand(x, "onto itself", 0, 2, -2, 3, -4, -4);
        A.due(x, "n = 0 of nothing", 0, 0, x.gather(10, -1, 0, 11));
        A.due(x, "from nothing", NOTHING, 1, x.gather(10, 0, 1, 1));
        A.due("into nothing", NOTHING, x.gather(0, 0, 1, 10));
        A.due("READ first", PLACE, x.gather(0, -1, 1, 10));
        A.due("READ first", PLACE, x.gather(0, HIGH, 100, 0));
        x.give(0, 0);
        x.set(9, 0);
        A.due(x, "from a letter", MISFIT, 2, x.gather(9, 0, 1, 10));
        A.due("into a letter", MISFIT, x.gather(0, 0, 1, 9));
        x.hold(8, 8, 2);
        A.due("nothing into numbers, before PLACE", MISFIT, x.gather(8, 0, 1, 0));
        x.hold(7, 4, 0);
        A.due("no places", PLACE, x.gather(0, 0, 1, 7));
        A.due("nothing into numbers, before PLACE", MISFIT, x.gather(8, 0, 1, 7));
        A.due("no case", UNKNOWN, x.gather(12, 0, 101, 0));
        A.due("no case", UNKNOWN, x.gather(0, 0, 0, -1));
        A.due("n 101", OUTSIDE, x.gather(0, 0, 101, 0));
        A.due("n -1", OUTSIDE, x.gather(10, 0, -1, 0));
    }

    private static void gatherStops() {
        TypeCases x = withLetters();
        longs(x, 0, 1, 2, 3, 4);
        longs(x, 1, 0, 0, 0);
        A.due(x, "until it can not be written", 3, 3, x.gather(0, 0, 4, 1));
        A.due(x, "until it can not be read", 2, 3, x.gather(0, 2, 100, 1));
        stand(x, "until it can not be read", 1, 5, 3, 4, 3);
        x.hold(2, 8, 4);
        x.hold(3, 9, 4);
        int[] stands = {1, 3, 2, 1};
        for (int i = 0; i < 4; i++) {
            x.give(0, stands[i]);
            x.put(0, 2, i);
        }
        A.due(x, "up to the first that does not fit", 2, 2, x.gather(2, 0, 4, 3));
        A.due("a capital", 1, letterAt(x, 3, 0));
        A.due("a capital", 3, letterAt(x, 3, 1));
        A.due("none behind it", NONE, letterAt(x, 3, 2));
        A.due("none behind it", NONE, letterAt(x, 3, 3));
        A.due(x, "the first does not fit", MISFIT, 2, x.gather(2, 2, 2, 3));
        A.due("as before", 1, letterAt(x, 3, 0));
    }

    private static void find() {
        TypeCases x = withLetters();
        row(x, 0, 4, 7, 8, 7, 9);
        x.number(0, 4, 7);
        A.due(x, "the last one", 2, 0, x.find(0, 0));
        x.number(0, 5, 7);
        A.due(x, "another kind", NONE, 0, x.find(0, 0));
        x.give(0, NONE);
        A.due("nothing in numbers", NONE, x.find(0, 0));
        row(x, 1, 7, 0, Long.MIN_VALUE, 0x7ff8000000000000L, 1);
        x.number(0, 7, 0);
        A.due("0.0 is not -0.0", 0, x.find(0, 1));
        x.number(0, 7, 0xfff0000000000009L);
        A.due("no number", 2, x.find(0, 1));
        x.hold(2, 8, 3);
        A.due("a number among letters", NONE, x.find(0, 2));
        x.give(0, 2);
        x.put(0, 2, 1);
        A.due("a letter", 1, x.find(0, 2));
        x.letter(20, false);
        x.give(0, 4);
        A.due("one just like it", NONE, x.find(0, 2));
        x.give(0, NONE);
        A.due("nothing", 2, x.find(0, 2));
        x.hold(3, 10, 2);
        x.hold(4, 3, 2);
        x.hold(5, 3, 2);
        x.lift(0, 4);
        x.put(0, 3, 0);
        A.due("a row", 0, x.find(0, 3));
        x.lift(0, 5);
        A.due("one just like it", NONE, x.find(0, 3));
        A.due(x, "nothing held by the case", NOTHING, 1, x.find(0, 9));
        x.give(0, 1);
        x.set(9, 0);
        A.due(x, "a letter", MISFIT, 2, x.find(0, 9));
        x.hold(9, 9, 0);
        A.due("no places", NONE, x.find(0, 9));
        A.due("no hand", UNKNOWN, x.find(4, 0));
        A.due("no case", UNKNOWN, x.find(0, 12));
    }

    /** Calls without causes, and refused ones, leave what is told. */
    private static void failed() {
        TypeCases x = new TypeCases();
        A.due(x, "places", NOTHING, 1, x.places(0));
        A.due(x, "hold", 1, 1, x.hold(0, 4, 2));
        A.due(x, "letter", 0, 1, x.letter(3, true));
        A.due(x, "give", 1, 1, x.give(0, 0));
        A.due(x, "lift", 1, 1, x.lift(1, 0));
        A.due(x, "number", 1, 1, x.number(2, 4, 3));
        A.due(x, "kind", 9, 1, x.kind(1));
        A.due(x, "sort", 4, 1, x.sort(0));
        refused(x, 1);
        A.due(x, "put", PLACE, 3, x.put(2, 0, 2));
        refused(x, 3);
        A.due(x, "put", 1, 0, x.put(2, 0, 1));
        refused(x, 0);
        A.due(x, "tell", MISFIT, 2, x.tell(0, 1, 1));
        x.number(2, 4, MISFIT);
        A.due(x, "a number that reads like a failure", MISFIT, 0, x.value(2, 4));
    }

    /** Each call with causes that does not fail tells 0, whatever failed before it. */
    private static void failedNoMore() {
        TypeCases x = withLetters();
        longs(x, 0, 3, 1, 2);
        x.lift(0, 0);
        x.give(1, 1);
        x.number(2, 5, 1);
        for (int call = 0; call < 17; call++) {
            A.due(x, "a failing call", NOTHING, 1, x.places(11));
            long answer = fine(x, call);
            A.due("call " + call + " does not fail", 0, x.failed());
            A.holds("call " + call + " answers no failure", answer >= NONE);
        }
    }

    private static long fine(TypeCases x, int call) {
        switch (call) {
            case 0: return x.set(1, 0);
            case 1: return x.take(3, 0, 0);
            case 2: return x.put(2, 0, 1);
            case 3: return x.swap(2, 0, 1);
            case 4: return x.exchange(0, 0, 1, 2);
            case 5: return x.value(0, 9);
            case 6: return x.value(1, 8);
            case 7: return x.value(2, 5);
            case 8: return x.weight(1);
            case 9: return x.tell(0, 0, 5);
            case 10: return x.places(0);
            case 11: return x.turn(0);
            case 12: return x.order(0, 5);
            case 13: return x.spread(0, 0, 2);
            case 14: return x.gather(0, 1, 2, 1);
            case 15: return x.find(1, 0);
            default: return x.find(2, 0);
        }
    }

    private static void refused(TypeCases x, int cause) {
        A.due(x, "set", UNKNOWN, cause, x.set(12, 0));
        A.due(x, "take", UNKNOWN, cause, x.take(0, 12, 0));
        A.due(x, "put", UNKNOWN, cause, x.put(4, 0, 0));
        A.due(x, "swap", UNKNOWN, cause, x.swap(4, 0, 0));
        A.due(x, "exchange", UNKNOWN, cause, x.exchange(0, 0, 12, 0));
        A.due(x, "value", UNKNOWN, cause, x.value(4, 0));
        A.due(x, "value", OUTSIDE, cause, x.value(0, 10));
        A.due(x, "weight", UNKNOWN, cause, x.weight(4));
        A.due(x, "tell", UNKNOWN, cause, x.tell(12, 0, 0));
        A.due(x, "tell", OUTSIDE, cause, x.tell(0, 0, 8));
        A.due(x, "places", UNKNOWN, cause, x.places(12));
        A.due(x, "turn", UNKNOWN, cause, x.turn(12));
        A.due(x, "order", UNKNOWN, cause, x.order(12, 5));
        A.due(x, "order", OUTSIDE, cause, x.order(0, 6));
        A.due(x, "spread", UNKNOWN, cause, x.spread(12, 0, 0));
        A.due(x, "spread", OUTSIDE, cause, x.spread(0, 0, 101));
        A.due(x, "gather", UNKNOWN, cause, x.gather(0, 0, 0, 12));
        A.due(x, "gather", OUTSIDE, cause, x.gather(0, 0, 101, 0));
        A.due(x, "find", UNKNOWN, cause, x.find(4, 0));
    }

    private static void refusalsInOrder() {
        A.due("NONE", NONE, TypeCases.NONE);
        A.due("UNKNOWN", UNKNOWN, TypeCases.UNKNOWN);
        A.due("OUTSIDE", OUTSIDE, TypeCases.OUTSIDE);
        A.due("FULL", FULL, TypeCases.FULL);
        TypeCases x = new TypeCases();
        A.due("REFUSALS before CAUSES", OUTSIDE, x.tell(0, 0, 8));
        A.due("REFUSALS before CAUSES", OUTSIDE, x.value(0, 10));
        A.due("REFUSALS before CAUSES", OUTSIDE, x.order(0, 4));
        A.due("REFUSALS before CAUSES", OUTSIDE, x.spread(0, 0, 101));
        A.due("REFUSALS before CAUSES", OUTSIDE, x.gather(0, 0, 101, 0));
    }
}
