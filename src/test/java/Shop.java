/** Objects for the tests of the edges, and all that can be seen of an object. */
final class Shop {
    static final int NONE = -1, UNKNOWN = -1001, OUTSIDE = -1002, FULL = -1003;
    static final int NOTHING = -11, MISFIT = -12, PLACE = -13;
    static final int LOW = Integer.MIN_VALUE, HIGH = Integer.MAX_VALUE;
    static final long NO_FLOAT = 0x7fc00000L, NO_DOUBLE = 0x7ff8000000000000L;

    private Shop() {
    }

    /** A call, told as it is written. */
    interface Call {
        long on(TypeCases x);
    }

    /** A call with one argument that a test chooses. */
    interface With {
        long on(TypeCases x, int argument);
    }

    /** A call that names a place of a case. */
    interface At {
        long on(TypeCases x, int c, int i);
    }

    static long bits(float number) {
        return Float.floatToIntBits(number);
    }

    static long bits(double number) {
        return Double.doubleToLongBits(number);
    }

    /** A row of numbers in a case; hand 3 is used and holds nothing then. */
    static void row(TypeCases x, int c, int kind, long... numbers) {
        x.hold(c, kind, numbers.length);
        for (int i = 0; i < numbers.length; i++) {
            x.number(3, kind, numbers[i]);
            x.put(3, c, i);
        }
        x.give(3, NONE);
    }

    /** Letters into a row that has been held, NONE for nothing; hand 3 is used and holds nothing then. */
    static void letters(TypeCases x, int c, int... numbers) {
        for (int i = 0; i < numbers.length; i++) {
            x.give(3, numbers[i]);
            x.put(3, c, i);
        }
        x.give(3, NONE);
    }

    /** Letters 0 and 2 are none of the capitals, 1 and 3 are. */
    static TypeCases withLetters() {
        TypeCases x = new TypeCases();
        x.letter(7, false);
        x.letter(9, true);
        x.letter(0, false);
        x.letter(10000, true);
        return x;
    }

    /**
     * Case c holds a row of sort c with three places, but for 1, which holds nothing, and 11, which holds
     * letter 2. Hand 0 holds the byte -3, 1 the capital 1, 2 the row of case 3, 3 nothing.
     */
    static TypeCases filled() {
        TypeCases x = withLetters();
        row(x, 0, 0, 1, 0, 1);
        row(x, 2, 2, -5, 6, -5);
        row(x, 3, 3, 65, 66, 67);
        row(x, 4, 4, 40, 41, 42);
        row(x, 5, 5, -50, 51, -52);
        row(x, 6, 6, bits(1.5f), bits(-0.0f), NO_FLOAT);
        row(x, 7, 7, bits(2.5), bits(-0.0), NO_DOUBLE);
        x.hold(8, 8, 3);
        letters(x, 8, 0, 1, NONE);
        x.hold(9, 9, 3);
        letters(x, 9, 1, NONE, 3);
        row(x, 11, 3, 97, 98);
        x.hold(10, 10, 3);
        x.lift(2, 11);
        x.put(2, 10, 2);
        x.lift(2, 3);
        x.put(2, 10, 0);
        x.give(1, 2);
        x.set(11, 1);
        x.give(1, 1);
        x.number(0, 1, -3);
        return x;
    }

    /** All that can be seen of an object but what failed() tells; the object is of no use behind it. */
    static String seen(TypeCases x) {
        StringBuilder all = new StringBuilder();
        for (int h = 0; h < 4; h++) {
            all.append(" hand ").append(h).append(':').append(inHand(x, h));
        }
        // A row in hand 2 is told from others by where it stands among the lines.
        all.append(" hand 2 in lines:").append(x.find(2, 10));
        for (int c = 0; c < 12; c++) {
            all.append(" case ").append(c).append(':').append(inCase(x, c));
        }
        x.lift(2, 3);
        all.append(" case 3 in lines:").append(x.find(2, 10));
        x.take(3, 10, 2);
        x.set(11, 3);
        all.append(" the last line:").append(inCase(x, 11));
        all.append(" letters:").append(x.letter(0, false));
        return all.toString();
    }

    private static String inHand(TypeCases x, int h) {
        int kind = x.kind(h);
        return kind == 12 ? "nothing" : kind + "=" + x.value(h, kind);
    }

    private static String inCase(TypeCases x, int c) {
        int sort = x.sort(c);
        StringBuilder all = new StringBuilder().append(sort);
        if (sort == 11) {
            x.lift(3, c);
            return all.append('=').append(x.value(3, 8)).toString();
        }
        int places = sort == 12 ? 0 : x.places(c);
        for (int i = 0; i < places; i++) {
            if (sort <= 7) {
                all.append(',').append(x.tell(c, i, sort));
            } else {
                x.take(3, c, i);
                all.append(',').append(inHand(x, 3));
            }
        }
        return all.toString();
    }
}
