/** A printer's cases, letters and hands; ../shared/DOC.md says what each call promises. */
public final class TypeCases {
    public static final int NONE = -1, UNKNOWN = -1001, OUTSIDE = -1002, FULL = -1003;

    private static final int CASES = 12, HANDS = 4, MOST_LETTERS = 40, MOST_PLACES = 20;
    private static final int WIDEST = 10000, MOST_MOVED = 100;

    private static final int TRUTHS = 0, BYTES = 1, SHORTS = 2, CHARS = 3;
    private static final int INTS = 4, LONGS = 5, FLOATS = 6, DOUBLES = 7;
    private static final int LETTERS = 8, LINES = 10, LETTER_ITSELF = 11;
    private static final int EMPTY = 12;

    // In a hand 8 and 9 mean something else than in a case.
    private static final int LETTER_IN_HAND = 8, ROW_IN_HAND = 9;

    private static final int NO_CAUSE = 0, NOTHING = 1, MISFIT = 2, PLACE = 3;

    private final Piece[] cases = new Piece[CASES];
    private final Holding[] hands = new Holding[HANDS];
    private final Letter[] letters = new Letter[MOST_LETTERS];
    private int letterCount = 0;
    private int latestCause = NO_CAUSE;

    // Made once and used by every call that moves or orders, so that calls make no objects.
    private final Holding moved = new Holding();
    private final Holding displaced = new Holding();
    private final long[] keys = new long[MOST_PLACES];

    public TypeCases() {
        for (int h = 0; h < HANDS; h++) {
            hands[h] = new Holding();
        }
    }

    public int hold(int c, int sort, int n) {
        if (!isCase(c)) {
            return UNKNOWN;
        }
        if (sort == EMPTY) {
            cases[c] = null;
            return 1;
        }
        if (sort < TRUTHS || sort > LINES || n < 0 || n > MOST_PLACES) {
            return OUTSIDE;
        }
        if (sort <= DOUBLES) {
            cases[c] = new NumberRow(sort, n);
        } else {
            cases[c] = new PieceRow(sort, n);
        }
        return 1;
    }

    public int letter(int width, boolean capital) {
        if (width < 0 || width > WIDEST) {
            return OUTSIDE;
        }
        if (letterCount >= MOST_LETTERS) {
            return FULL;
        }
        int number = letterCount;
        letters[number] = new Letter(number, width, capital);
        letterCount++;
        return number;
    }

    public int set(int c, int hand) {
        if (!isCase(c) || !isHand(hand)) {
            return UNKNOWN;
        }
        if (hands[hand].isNumber()) {
            return failing(MISFIT);
        }
        cases[c] = hands[hand].piece;
        return done(1);
    }

    public int give(int hand, int letter) {
        if (!isHand(hand) || letter < NONE || letter >= letterCount) {
            return UNKNOWN;
        }
        hands[hand].holdPiece(letter == NONE ? null : letters[letter]);
        return 1;
    }

    public int lift(int hand, int c) {
        if (!isHand(hand) || !isCase(c)) {
            return UNKNOWN;
        }
        hands[hand].holdPiece(cases[c]);
        return 1;
    }

    public int number(int hand, int kind, long bits) {
        if (!isHand(hand)) {
            return UNKNOWN;
        }
        if (kind < TRUTHS || kind > DOUBLES) {
            return OUTSIDE;
        }
        hands[hand].holdNumber(kind, Numbers.toldByBits(kind, bits));
        return 1;
    }

    public int take(int hand, int c, int i) {
        if (!isHand(hand) || !isCase(c)) {
            return UNKNOWN;
        }
        return oneOrFailing(read(c, i, hands[hand]));
    }

    public int put(int hand, int c, int i) {
        if (!isHand(hand) || !isCase(c)) {
            return UNKNOWN;
        }
        return oneOrFailing(write(hands[hand], c, i));
    }

    public int swap(int hand, int c, int i) {
        if (!isHand(hand) || !isCase(c)) {
            return UNKNOWN;
        }
        int cause = read(c, i, displaced);
        if (cause == NO_CAUSE) {
            cause = write(hands[hand], c, i);
        }
        if (cause == NO_CAUSE) {
            hands[hand].holdSameAs(displaced);
        }
        return oneOrFailing(cause);
    }

    public int exchange(int a, int i, int b, int k) {
        if (!isCase(a) || !isCase(b)) {
            return UNKNOWN;
        }
        int cause = read(a, i, moved);
        if (cause == NO_CAUSE) {
            cause = read(b, k, displaced);
        }
        if (cause == NO_CAUSE) {
            cause = write(moved, b, k);
        }
        if (cause == NO_CAUSE) {
            cause = write(displaced, a, i);
            if (cause != NO_CAUSE) {
                // It came from there, so it fits there.
                write(displaced, b, k);
            }
        }
        return oneOrFailing(cause);
    }

    public int kind(int hand) {
        if (!isHand(hand)) {
            return UNKNOWN;
        }
        return hands[hand].kind;
    }

    public long value(int hand, int kind) {
        if (!isHand(hand)) {
            return UNKNOWN;
        }
        if (kind < TRUTHS || kind > ROW_IN_HAND) {
            return OUTSIDE;
        }
        Holding held = hands[hand];
        if (held.kind == EMPTY) {
            return failing(NOTHING);
        }
        if (held.isNumber() && Numbers.goesInto(held.kind, kind)) {
            return doneLong(Numbers.converted(held.told, held.kind, kind));
        }
        if (kind == LETTER_IN_HAND && held.piece instanceof Letter letter) {
            return done(letter.number);
        }
        if (kind == ROW_IN_HAND && held.piece instanceof Row row) {
            return done(row.size());
        }
        return failing(MISFIT);
    }

    public int weight(int hand) {
        if (!isHand(hand)) {
            return UNKNOWN;
        }
        if (hands[hand].kind == EMPTY) {
            return failing(NOTHING);
        }
        if (hands[hand].piece instanceof Letter letter) {
            return done(letter.heaviness());
        }
        return failing(MISFIT);
    }

    public long tell(int c, int i, int kind) {
        if (!isCase(c)) {
            return UNKNOWN;
        }
        if (kind < TRUTHS || kind > DOUBLES) {
            return OUTSIDE;
        }
        if (cases[c] == null) {
            return failing(NOTHING);
        }
        if (cases[c] instanceof NumberRow row) {
            if (!row.hasPlace(i)) {
                return failing(PLACE);
            }
            if (Numbers.goesInto(row.sort, kind)) {
                return doneLong(row.toldAs(i, kind));
            }
        }
        return failing(MISFIT);
    }

    public int places(int c) {
        if (!isCase(c)) {
            return UNKNOWN;
        }
        Row row = rowIn(c);
        if (row == null) {
            return failing(whyNoRow(c));
        }
        return done(row.size());
    }

    public int sort(int c) {
        if (!isCase(c)) {
            return UNKNOWN;
        }
        Piece piece = cases[c];
        return piece == null ? EMPTY : piece.sortInCase();
    }

    public int turn(int c) {
        if (!isCase(c)) {
            return UNKNOWN;
        }
        Row row = rowIn(c);
        if (row == null) {
            return failing(whyNoRow(c));
        }
        int low = 0;
        int high = row.size() - 1;
        while (low < high) {
            row.interchange(low, high);
            low++;
            high--;
        }
        return done(row.size());
    }

    public int order(int c, int kind) {
        if (!isCase(c)) {
            return UNKNOWN;
        }
        if (kind != LONGS && kind != DOUBLES) {
            return OUTSIDE;
        }
        Row row = rowIn(c);
        if (row == null) {
            return failing(whyNoRow(c));
        }
        if (row.size() == 0) {
            return done(0);
        }
        if (row instanceof NumberRow numbers && Numbers.goesInto(row.sort, kind)) {
            return done(numbers.putInOrder(kind, keys));
        }
        return failing(MISFIT);
    }

    public int spread(int c, int i, int n) {
        if (!isCase(c)) {
            return UNKNOWN;
        }
        if (n < 0 || n > MOST_MOVED) {
            return OUTSIDE;
        }
        int cause = read(c, i, moved);
        if (cause != NO_CAUSE) {
            return failing(cause);
        }
        for (int count = 0; count < n; count++) {
            cause = write(moved, c, i + 1 + count);
            if (cause != NO_CAUSE) {
                return stoppedAfter(count, cause);
            }
        }
        return done(n);
    }

    public int gather(int from, int i, int n, int to) {
        if (!isCase(from) || !isCase(to)) {
            return UNKNOWN;
        }
        if (n < 0 || n > MOST_MOVED) {
            return OUTSIDE;
        }
        for (int count = 0; count < n; count++) {
            int cause = read(from, i + count, moved);
            if (cause == NO_CAUSE) {
                cause = write(moved, to, count);
            }
            if (cause != NO_CAUSE) {
                return count == 0 ? failing(cause) : stoppedAfter(count, cause);
            }
        }
        return done(n);
    }

    public int find(int hand, int c) {
        if (!isHand(hand) || !isCase(c)) {
            return UNKNOWN;
        }
        Row row = rowIn(c);
        if (row == null) {
            return failing(whyNoRow(c));
        }
        for (int i = row.size() - 1; i >= 0; i--) {
            if (row.standsAt(i, hands[hand])) {
                return done(i);
            }
        }
        return done(NONE);
    }

    public int failed() {
        return latestCause;
    }

    private static boolean isCase(int c) {
        return c >= 0 && c < CASES;
    }

    private static boolean isHand(int hand) {
        return hand >= 0 && hand < HANDS;
    }

    private Row rowIn(int c) {
        return cases[c] instanceof Row row ? row : null;
    }

    private int whyNoRow(int c) {
        return cases[c] == null ? NOTHING : MISFIT;
    }

    private int read(int c, int i, Holding into) {
        Row row = rowIn(c);
        if (row == null) {
            return whyNoRow(c);
        }
        if (!row.hasPlace(i)) {
            return PLACE;
        }
        row.copyOut(i, into);
        return NO_CAUSE;
    }

    private int write(Holding what, int c, int i) {
        Row row = rowIn(c);
        if (row == null) {
            return whyNoRow(c);
        }
        if (what.kind == EMPTY && row instanceof NumberRow) {
            return MISFIT;
        }
        if (!row.hasPlace(i)) {
            return PLACE;
        }
        if (!row.accepts(what)) {
            return MISFIT;
        }
        row.copyIn(what, i);
        return NO_CAUSE;
    }

    private int oneOrFailing(int cause) {
        return cause == NO_CAUSE ? done(1) : failing(cause);
    }

    private int failing(int cause) {
        latestCause = cause;
        return -10 - cause;
    }

    private int stoppedAfter(int count, int cause) {
        latestCause = cause;
        return count;
    }

    private int done(int answer) {
        latestCause = NO_CAUSE;
        return answer;
    }

    private long doneLong(long answer) {
        latestCause = NO_CAUSE;
        return answer;
    }

    /** What a case can hold and a hand can lift: a letter or a row. */
    private abstract static class Piece {
        abstract int sortInCase();

        abstract int kindInHand();
    }

    private static final class Letter extends Piece {
        final int number;
        final int width;
        final boolean capital;

        Letter(int number, int width, boolean capital) {
            this.number = number;
            this.width = width;
            this.capital = capital;
        }

        int sortInCase() {
            return LETTER_ITSELF;
        }

        int kindInHand() {
            return LETTER_IN_HAND;
        }

        int heaviness() {
            return capital ? 3 * width + 5 : width;
        }
    }

    /** Callers ask hasPlace before they name a place, and accepts before copyIn. */
    private abstract static class Row extends Piece {
        final int sort;

        Row(int sort) {
            this.sort = sort;
        }

        abstract int size();

        abstract boolean accepts(Holding what);

        abstract void copyOut(int i, Holding into);

        abstract void copyIn(Holding what, int i);

        abstract boolean standsAt(int i, Holding what);

        abstract void interchange(int i, int k);

        boolean hasPlace(int i) {
            return i >= 0 && i < size();
        }

        int sortInCase() {
            return sort;
        }

        int kindInHand() {
            return ROW_IN_HAND;
        }
    }

    /** Numbers stand here as they are told in the row's own kind, so like bits are like longs. */
    private static final class NumberRow extends Row {
        private final long[] numbers;

        NumberRow(int kind, int n) {
            super(kind);
            numbers = new long[n];
        }

        int size() {
            return numbers.length;
        }

        boolean accepts(Holding what) {
            return what.isNumber() && Numbers.goesInto(what.kind, sort);
        }

        void copyOut(int i, Holding into) {
            into.holdNumber(sort, numbers[i]);
        }

        void copyIn(Holding what, int i) {
            numbers[i] = Numbers.converted(what.told, what.kind, sort);
        }

        boolean standsAt(int i, Holding what) {
            return what.kind == sort && what.told == numbers[i];
        }

        void interchange(int i, int k) {
            long kept = numbers[i];
            numbers[i] = numbers[k];
            numbers[k] = kept;
        }

        long toldAs(int i, int kind) {
            return Numbers.converted(numbers[i], sort, kind);
        }

        /** Insertion keeps like ones as they stood, and moves just those that have a later one ahead. */
        int putInOrder(int kind, long[] keys) {
            int n = Math.min(numbers.length, keys.length);
            int count = 0;
            for (int i = 0; i < n; i++) {
                keys[i] = Numbers.rank(toldAs(i, kind), kind);
                if (insert(i, keys)) {
                    count++;
                }
            }
            return count;
        }

        private boolean insert(int i, long[] keys) {
            long key = keys[i];
            long number = numbers[i];
            int at = i;
            while (at > 0 && keys[at - 1] > key) {
                keys[at] = keys[at - 1];
                numbers[at] = numbers[at - 1];
                at--;
            }
            keys[at] = key;
            numbers[at] = number;
            return at < i;
        }
    }

    private static final class PieceRow extends Row {
        private final Piece[] pieces;

        PieceRow(int sort, int n) {
            super(sort);
            pieces = new Piece[n];
        }

        int size() {
            return pieces.length;
        }

        boolean accepts(Holding what) {
            if (what.kind == EMPTY) {
                return true;
            }
            if (sort == LINES) {
                return what.piece instanceof Row row && row.sort == CHARS;
            }
            return what.piece instanceof Letter letter && (letter.capital || sort == LETTERS);
        }

        void copyOut(int i, Holding into) {
            into.holdPiece(pieces[i]);
        }

        void copyIn(Holding what, int i) {
            pieces[i] = what.piece;
        }

        boolean standsAt(int i, Holding what) {
            return !what.isNumber() && what.piece == pieces[i];
        }

        void interchange(int i, int k) {
            Piece kept = pieces[i];
            pieces[i] = pieces[k];
            pieces[k] = kept;
        }
    }

    /** What a hand holds, or what is on its way from one place to another. */
    private static final class Holding {
        int kind = EMPTY;
        long told = 0;
        Piece piece = null;

        boolean isNumber() {
            return kind <= DOUBLES;
        }

        void holdNumber(int newKind, long newTold) {
            kind = newKind;
            told = newTold;
            piece = null;
        }

        void holdPiece(Piece newPiece) {
            kind = newPiece == null ? EMPTY : newPiece.kindInHand();
            told = 0;
            piece = newPiece;
        }

        void holdSameAs(Holding other) {
            kind = other.kind;
            told = other.told;
            piece = other.piece;
        }
    }

    /** Floats and doubles are worked on by their bits alone, since no arithmetic may meet a NaN. */
    private static final class Numbers {
        private static final int FLOAT_FRACTION = 23, FLOAT_BIAS = 127;
        private static final int DOUBLE_FRACTION = 52, DOUBLE_BIAS = 1023;
        private static final int FLOAT_SIGN = 0x80000000;
        private static final long DOUBLE_SIGN = 0x8000000000000000L;
        private static final int FLOAT_INFINITE = 0x7f800000, FLOAT_NO_NUMBER = 0x7fc00000;
        private static final long DOUBLE_INFINITE = 0x7ff0000000000000L;
        private static final long DOUBLE_NO_NUMBER = 0x7ff8000000000000L;

        // The smallest float is 2 to the power of minus this.
        private static final int FLOAT_DEPTH = 149;

        private Numbers() {
        }

        static boolean goesInto(int from, int to) {
            if (from == to) {
                return true;
            }
            return from != TRUTHS && from < to && to != CHARS && to <= DOUBLES;
        }

        static long toldByBits(int kind, long bits) {
            switch (kind) {
                case TRUTHS:
                    return bits & 1L;
                case BYTES:
                    return (byte) bits;
                case SHORTS:
                    return (short) bits;
                case CHARS:
                    return (char) bits;
                case INTS:
                    return (int) bits;
                case FLOATS:
                    return oneNoFloat((int) bits);
                case DOUBLES:
                    return oneNoDouble(bits);
                default:
                    return bits;
            }
        }

        private static int oneNoFloat(int bits) {
            return (bits & ~FLOAT_SIGN) > FLOAT_INFINITE ? FLOAT_NO_NUMBER : bits;
        }

        private static long oneNoDouble(long bits) {
            return (bits & ~DOUBLE_SIGN) > DOUBLE_INFINITE ? DOUBLE_NO_NUMBER : bits;
        }

        /** Callers ask goesInto first. */
        static long converted(long told, int from, int to) {
            if (from == to || to < FLOATS) {
                return told;
            }
            if (from == FLOATS) {
                return floatAsDouble((int) told);
            }
            return to == FLOATS ? wholeAsFloat(told) : wholeAsDouble(told);
        }

        /** Longs that rise as the told numbers do. */
        static long rank(long told, int kind) {
            // The bits of doubles below zero rise as these fall; -0.0 becomes 0 as 0.0 is.
            return kind == DOUBLES && told < 0 ? DOUBLE_SIGN - told : told;
        }

        private static int wholeAsFloat(long whole) {
            int sign = whole < 0 ? FLOAT_SIGN : 0;
            return sign | (int) nearest(magnitude(whole), FLOAT_FRACTION, FLOAT_BIAS);
        }

        private static long wholeAsDouble(long whole) {
            long sign = whole < 0 ? DOUBLE_SIGN : 0;
            return sign | nearest(magnitude(whole), DOUBLE_FRACTION, DOUBLE_BIAS);
        }

        private static long floatAsDouble(int bits) {
            long sign = bits < 0 ? DOUBLE_SIGN : 0;
            int unsigned = bits & ~FLOAT_SIGN;
            if (unsigned > FLOAT_INFINITE) {
                return DOUBLE_NO_NUMBER;
            }
            if (unsigned == FLOAT_INFINITE) {
                return sign | DOUBLE_INFINITE;
            }
            if (unsigned == 0) {
                return sign;
            }
            if (unsigned < 1 << FLOAT_FRACTION) {
                // Without the hidden bit a float is a whole number of the smallest ones.
                long whole = nearest(unsigned, DOUBLE_FRACTION, DOUBLE_BIAS);
                return sign | (whole - ((long) FLOAT_DEPTH << DOUBLE_FRACTION));
            }
            long wider = (long) unsigned << (DOUBLE_FRACTION - FLOAT_FRACTION);
            return sign | (wider + ((long) (DOUBLE_BIAS - FLOAT_BIAS) << DOUBLE_FRACTION));
        }

        /** To be read without a sign: that of the lowest long is 2 to the power of 63. */
        private static long magnitude(long whole) {
            return whole < 0 ? -whole : whole;
        }

        private static long nearest(long magnitude, int fraction, int bias) {
            if (magnitude == 0) {
                return 0;
            }
            int top = highestBit(magnitude);
            int excess = top - fraction;
            long kept = excess > 0 ? roundedOff(magnitude, excess) : magnitude << -excess;
            // The highest bit of what is kept, and a carry of the rounding, add to the exponent.
            return ((long) (top + bias - 1) << fraction) + kept;
        }

        private static long roundedOff(long magnitude, int excess) {
            long kept = magnitude >>> excess;
            long rest = magnitude & ((1L << excess) - 1);
            long half = 1L << (excess - 1);
            boolean up = rest > half || rest == half && (kept & 1L) == 1L;
            return up ? kept + 1 : kept;
        }

        private static int highestBit(long magnitude) {
            int top = 63;
            while (top > 0 && magnitude >>> top == 0) {
                top--;
            }
            return top;
        }
    }
}
