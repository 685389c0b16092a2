/** The edges that the term REFUSALS names: which of them is told, and that nothing is changed. */
public final class RefusalsEdgesTest {
    private static final Answers A = new Answers("RefusalsEdgesTest");
    private static final int UNKNOWN = Shop.UNKNOWN, OUTSIDE = Shop.OUTSIDE, FULL = Shop.FULL;
    private static final int LOW = Shop.LOW, HIGH = Shop.HIGH;

    public static void main(String[] args) {
        A.test("of several the first: UNKNOWN before OUTSIDE, hold", RefusalsEdgesTest::firstOfHold);
        A.test("of several the first: UNKNOWN before OUTSIDE, number", RefusalsEdgesTest::firstOfNumber);
        A.test("of several the first: UNKNOWN before OUTSIDE, value", RefusalsEdgesTest::firstOfValue);
        A.test("of several the first: UNKNOWN before OUTSIDE, tell", RefusalsEdgesTest::firstOfTell);
        A.test("of several the first: UNKNOWN before OUTSIDE, order", RefusalsEdgesTest::firstOfOrder);
        A.test("of several the first: UNKNOWN before OUTSIDE, spread", RefusalsEdgesTest::firstOfSpread);
        A.test("of several the first: UNKNOWN before OUTSIDE, gather", RefusalsEdgesTest::firstOfGather);
        A.test("of several the first: OUTSIDE before FULL, letter", RefusalsEdgesTest::firstOfLetter);
        A.test("UNKNOWN, where a CAUSE would hold too", RefusalsEdgesTest::unknownBeforeCauses);
        A.test("OUTSIDE, where a CAUSE would hold too", RefusalsEdgesTest::outsideBeforeCauses);
        A.test("They change nothing (nor what failed() tells): hold", RefusalsEdgesTest::hold);
        A.test("They change nothing (nor what failed() tells): letter", RefusalsEdgesTest::letter);
        A.test("They change nothing (nor what failed() tells): letter, FULL", RefusalsEdgesTest::fullOfLetters);
        A.test("They change nothing (nor what failed() tells): set", RefusalsEdgesTest::set);
        A.test("They change nothing (nor what failed() tells): give", RefusalsEdgesTest::give);
        A.test("They change nothing (nor what failed() tells): lift", RefusalsEdgesTest::lift);
        A.test("They change nothing (nor what failed() tells): number", RefusalsEdgesTest::number);
        A.test("They change nothing (nor what failed() tells): take", RefusalsEdgesTest::take);
        A.test("They change nothing (nor what failed() tells): put", RefusalsEdgesTest::put);
        A.test("They change nothing (nor what failed() tells): swap", RefusalsEdgesTest::swap);
        A.test("They change nothing (nor what failed() tells): exchange", RefusalsEdgesTest::exchange);
        A.test("They change nothing (nor what failed() tells): kind", RefusalsEdgesTest::kind);
        A.test("They change nothing (nor what failed() tells): value", RefusalsEdgesTest::value);
        A.test("They change nothing (nor what failed() tells): weight", RefusalsEdgesTest::weight);
        A.test("They change nothing (nor what failed() tells): tell", RefusalsEdgesTest::tell);
        A.test("They change nothing (nor what failed() tells): places", RefusalsEdgesTest::places);
        A.test("They change nothing (nor what failed() tells): sort", RefusalsEdgesTest::sort);
        A.test("They change nothing (nor what failed() tells): turn", RefusalsEdgesTest::turn);
        A.test("They change nothing (nor what failed() tells): order", RefusalsEdgesTest::order);
        A.test("They change nothing (nor what failed() tells): spread", RefusalsEdgesTest::spread);
        A.test("They change nothing (nor what failed() tells): gather", RefusalsEdgesTest::gather);
        A.test("They change nothing (nor what failed() tells): find", RefusalsEdgesTest::find);
        A.end();
    }

    private static void firstOfHold() {
        TypeCases x = Shop.filled();
        A.due("sort", UNKNOWN, x.hold(12, 11, 3));
        A.due("n", UNKNOWN, x.hold(-1, 4, 21));
        A.due("sort and n", UNKNOWN, x.hold(LOW, 13, -1));
        A.due("sort 12", UNKNOWN, x.hold(12, 12, 0));
    }

    private static void firstOfNumber() {
        TypeCases x = Shop.filled();
        A.due("kind 8", UNKNOWN, x.number(4, 8, 0));
        A.due("kind -1", UNKNOWN, x.number(-1, -1, 0));
    }

    private static void firstOfValue() {
        TypeCases x = Shop.filled();
        A.due("kind 10", UNKNOWN, x.value(4, 10));
        A.due("kind -1", UNKNOWN, x.value(-1, -1));
    }

    private static void firstOfTell() {
        TypeCases x = Shop.filled();
        A.due("kind 8", UNKNOWN, x.tell(12, 0, 8));
        A.due("kind -1", UNKNOWN, x.tell(-1, 0, -1));
    }

    private static void firstOfOrder() {
        TypeCases x = Shop.filled();
        A.due("kind 6", UNKNOWN, x.order(12, 6));
        A.due("kind -1", UNKNOWN, x.order(-1, -1));
    }

    private static void firstOfSpread() {
        TypeCases x = Shop.filled();
        A.due("n 101", UNKNOWN, x.spread(12, 0, 101));
        A.due("n -1", UNKNOWN, x.spread(-1, 0, -1));
    }

    private static void firstOfGather() {
        TypeCases x = Shop.filled();
        A.due("no first case", UNKNOWN, x.gather(12, 0, 101, 4));
        A.due("no second case", UNKNOWN, x.gather(4, 0, -1, 12));
        A.due("neither", UNKNOWN, x.gather(-1, 0, 101, -1));
    }

    private static void firstOfLetter() {
        TypeCases x = new TypeCases();
        for (int i = 0; i < 40; i++) {
            x.letter(i, false);
        }
        A.due("width -1", OUTSIDE, x.letter(-1, false));
        A.due("width 10001", OUTSIDE, x.letter(10001, true));
        A.due("width 10000", FULL, x.letter(10000, true));
        A.due("width 0", FULL, x.letter(0, false));
    }

    /** Case 1 and hand 3 hold nothing, case 11 holds no row, hand 0 a number. */
    private static void unknownBeforeCauses() {
        TypeCases x = Shop.filled();
        A.due("set", UNKNOWN, x.set(12, 0));
        A.due("take", UNKNOWN, x.take(4, 1, 0));
        A.due("put", UNKNOWN, x.put(4, 1, 0));
        A.due("swap", UNKNOWN, x.swap(4, 11, 0));
        A.due("exchange, the first fails", UNKNOWN, x.exchange(1, 0, 12, 0));
        A.due("exchange, the second fails", UNKNOWN, x.exchange(12, 0, 1, 0));
        A.due("gather, the first fails", UNKNOWN, x.gather(1, 0, 1, 12));
        A.due("gather, the second fails", UNKNOWN, x.gather(12, 0, 1, 11));
        A.due("gather of none", UNKNOWN, x.gather(4, 0, 0, 12));
        A.due("spread to none", UNKNOWN, x.spread(12, -1, 0));
        A.due("find", UNKNOWN, x.find(4, 1));
    }

    private static void outsideBeforeCauses() {
        TypeCases x = Shop.filled();
        A.due("value of nothing", OUTSIDE, x.value(3, 10));
        A.due("tell of nothing", OUTSIDE, x.tell(1, 0, 8));
        A.due("tell of no row", OUTSIDE, x.tell(11, 0, -1));
        A.due("tell of no place", OUTSIDE, x.tell(4, 3, 8));
        A.due("order of nothing", OUTSIDE, x.order(1, 4));
        A.due("order of no row", OUTSIDE, x.order(11, 6));
        A.due("order of letters", OUTSIDE, x.order(8, 8));
        A.due("spread of nothing", OUTSIDE, x.spread(1, 0, 101));
        A.due("spread of no row", OUTSIDE, x.spread(11, 0, -1));
        A.due("spread of no place", OUTSIDE, x.spread(4, 3, 101));
        A.due("gather from nothing", OUTSIDE, x.gather(1, 0, 101, 4));
        A.due("gather to no row", OUTSIDE, x.gather(4, 0, -1, 11));
        A.due("gather of no place", OUTSIDE, x.gather(4, 3, 101, 5));
    }

    /** A call that makes failed() tell this cause, and changes nothing else. */
    private static void tellCause(TypeCases x, int cause) {
        switch (cause) {
            case 0:
                x.places(4);
                break;
            case 1:
                x.places(1);
                break;
            case 2:
                x.places(11);
                break;
            default:
                x.tell(4, 3, 4);
                break;
        }
    }

    /** Each of these calls, on objects of its own, is refused and leaves all as it was. */
    private static void refused(int want, Shop.Call... calls) {
        String before = Shop.seen(Shop.filled());
        for (int i = 0; i < calls.length; i++) {
            for (int cause = 0; cause <= 3; cause++) {
                TypeCases x = Shop.filled();
                tellCause(x, cause);
                A.due(x, "call " + i + " behind cause " + cause, want, cause, calls[i].on(x));
                A.same("call " + i, before, Shop.seen(x));
            }
        }
    }

    private static void hold() {
        refused(UNKNOWN, x -> x.hold(-1, 4, 1), x -> x.hold(12, 4, 1), x -> x.hold(12, 12, 0), x -> x.hold(LOW, 8, 1));
        refused(OUTSIDE, x -> x.hold(4, -1, 1), x -> x.hold(4, 11, 1), x -> x.hold(4, 13, 1), x -> x.hold(4, HIGH, 1),
            x -> x.hold(4, 5, -1), x -> x.hold(8, 8, 21), x -> x.hold(10, 10, HIGH), x -> x.hold(0, 0, LOW));
    }

    private static void letter() {
        refused(OUTSIDE, x -> x.letter(-1, false), x -> x.letter(10001, true), x -> x.letter(LOW, true),
            x -> x.letter(HIGH, false));
    }

    private static void fullOfLetters() {
        TypeCases x = new TypeCases();
        for (int i = 0; i < 40; i++) {
            x.letter(i, i % 2 == 0);
        }
        x.give(0, 39);
        A.due(x, "places", Shop.NOTHING, 1, x.places(0));
        A.due(x, "one more", FULL, 1, x.letter(77, true));
        A.due("the last one has its width", 39, x.weight(0));
        A.due(x, "one more", FULL, 0, x.letter(78, false));
        A.due("there is no letter 40", UNKNOWN, x.give(0, 40));
        for (int i = 0; i < 40; i++) {
            x.give(0, i);
            A.due("letter " + i, i % 2 == 0 ? 3 * i + 5 : i, x.weight(0));
        }
    }

    private static void set() {
        refused(UNKNOWN, x -> x.set(-1, 1), x -> x.set(12, 1), x -> x.set(4, -1), x -> x.set(4, 4), x -> x.set(12, 0));
    }

    private static void give() {
        refused(UNKNOWN, x -> x.give(-1, 0), x -> x.give(4, 0), x -> x.give(4, -1), x -> x.give(0, -2),
            x -> x.give(1, 4), x -> x.give(2, 40), x -> x.give(3, HIGH));
    }

    private static void lift() {
        refused(UNKNOWN, x -> x.lift(-1, 4), x -> x.lift(4, 4), x -> x.lift(0, -1), x -> x.lift(1, 12));
    }

    private static void number() {
        refused(UNKNOWN, x -> x.number(-1, 4, 1), x -> x.number(4, 4, 1));
        refused(OUTSIDE, x -> x.number(0, -1, 1), x -> x.number(1, 8, 1), x -> x.number(2, LOW, 1),
            x -> x.number(3, HIGH, 1));
    }

    private static void take() {
        refused(UNKNOWN, x -> x.take(-1, 4, 0), x -> x.take(4, 4, 0), x -> x.take(0, -1, 0), x -> x.take(0, 12, 0));
    }

    private static void put() {
        refused(UNKNOWN, x -> x.put(-1, 4, 0), x -> x.put(4, 4, 0), x -> x.put(0, -1, 0), x -> x.put(0, 12, 0));
    }

    private static void swap() {
        refused(UNKNOWN, x -> x.swap(-1, 4, 0), x -> x.swap(4, 4, 0), x -> x.swap(0, -1, 0), x -> x.swap(0, 12, 0));
    }

    private static void exchange() {
        refused(UNKNOWN, x -> x.exchange(-1, 0, 4, 0), x -> x.exchange(12, 0, 4, 0), x -> x.exchange(4, 0, -1, 0),
            x -> x.exchange(4, 0, 12, 0));
    }

    private static void kind() {
        refused(UNKNOWN, x -> x.kind(-1), x -> x.kind(4));
    }

    private static void value() {
        refused(UNKNOWN, x -> x.value(-1, 4), x -> x.value(4, 4));
        refused(OUTSIDE, x -> x.value(0, -1), x -> x.value(0, 10), x -> x.value(1, LOW), x -> x.value(3, HIGH));
    }

    private static void weight() {
        refused(UNKNOWN, x -> x.weight(-1), x -> x.weight(4));
    }

    private static void tell() {
        refused(UNKNOWN, x -> x.tell(-1, 0, 4), x -> x.tell(12, 0, 4));
        refused(OUTSIDE, x -> x.tell(4, 0, -1), x -> x.tell(4, 0, 8), x -> x.tell(4, 0, LOW), x -> x.tell(4, 0, HIGH));
    }

    private static void places() {
        refused(UNKNOWN, x -> x.places(-1), x -> x.places(12));
    }

    private static void sort() {
        refused(UNKNOWN, x -> x.sort(-1), x -> x.sort(12));
    }

    private static void turn() {
        refused(UNKNOWN, x -> x.turn(-1), x -> x.turn(12));
    }

    private static void order() {
        refused(UNKNOWN, x -> x.order(-1, 5), x -> x.order(12, 7));
        refused(OUTSIDE, x -> x.order(5, -1), x -> x.order(5, 0), x -> x.order(5, 1), x -> x.order(5, 2),
            x -> x.order(5, 3), x -> x.order(5, 4), x -> x.order(5, 6), x -> x.order(5, 8), x -> x.order(5, HIGH),
            x -> x.order(5, LOW));
    }

    private static void spread() {
        refused(UNKNOWN, x -> x.spread(-1, 0, 1), x -> x.spread(12, 0, 1));
        refused(OUTSIDE, x -> x.spread(4, 0, -1), x -> x.spread(4, 0, 101), x -> x.spread(4, 0, LOW),
            x -> x.spread(4, 0, HIGH));
    }

    private static void gather() {
        refused(UNKNOWN, x -> x.gather(-1, 0, 1, 4), x -> x.gather(12, 0, 1, 4), x -> x.gather(4, 0, 1, -1),
            x -> x.gather(4, 0, 1, 12));
        refused(OUTSIDE, x -> x.gather(4, 0, -1, 5), x -> x.gather(4, 0, 101, 5), x -> x.gather(4, 0, LOW, 5),
            x -> x.gather(4, 0, HIGH, 5));
    }

    private static void find() {
        refused(UNKNOWN, x -> x.find(-1, 4), x -> x.find(4, 4), x -> x.find(0, -1), x -> x.find(0, 12));
    }
}
