/** 'An object is used for at most 512 calls after it has been made': runs of just as many. */
public final class UseEdgesTest {
    private static final Answers A = new Answers("UseEdgesTest");
    private static final int CALLS = 512;

    public static void main(String[] args) {
        A.test("512 calls, all hold", UseEdgesTest::allHold);
        A.test("512 calls, all hold but the last", UseEdgesTest::allHoldButTheLast);
        A.test("512 calls, all letter", UseEdgesTest::allLetter);
        A.test("512 calls, all failing", UseEdgesTest::allFailing);
        A.test("512 calls, all refused but the last", UseEdgesTest::allRefused);
        A.test("512 calls, put and turn", UseEdgesTest::putAndTurn);
        A.test("512 calls, order", UseEdgesTest::orderAndTurn);
        A.test("512 calls, spread and gather by hundreds", UseEdgesTest::spreadAndGather);
        A.test("512 calls, lines", UseEdgesTest::lines);
        A.end();
    }

    private static void allHold() {
        TypeCases x = new TypeCases();
        for (int call = 1; call <= CALLS; call++) {
            A.due("call " + call, 1, x.hold(call % 12, call % 11, 20));
        }
        x = new TypeCases();
        for (int call = 1; call <= CALLS; call++) {
            A.due("one case, call " + call, 1, x.hold(11, 5, 20));
        }
        x = new TypeCases();
        for (int call = 1; call <= CALLS; call++) {
            A.due("rows and nothing, call " + call, 1, x.hold(0, call % 2 == 0 ? 12 : 10, call % 21));
        }
    }

    private static void allHoldButTheLast() {
        for (int c = 0; c < 12; c++) {
            TypeCases x = new TypeCases();
            for (int call = 1; call < CALLS; call++) {
                A.due("call " + call, 1, x.hold(call % 12, call % 12 % 11, call % 12));
            }
            A.due("the last call, case " + c, c, x.places(c));
        }
    }

    private static void allLetter() {
        TypeCases x = new TypeCases();
        for (int call = 1; call <= CALLS; call++) {
            int want = call <= 40 ? call - 1 : Shop.FULL;
            A.due("call " + call, want, x.letter(call % 10001, call % 2 == 0));
        }
    }

    private static void allFailing() {
        TypeCases x = new TypeCases();
        for (int call = 1; call < CALLS; call++) {
            A.due("call " + call, Shop.NOTHING, x.take(call % 4, call % 12, call));
        }
        A.due("the last call", 1, x.failed());
    }

    private static void allRefused() {
        TypeCases x = new TypeCases();
        for (int call = 1; call < CALLS; call++) {
            A.due("call " + call, Shop.UNKNOWN, x.hold(call % 2 == 0 ? -call : 11 + call, 4, 20));
        }
        A.due("the last call", 12, x.sort(0));
    }

    /** 1 hold, 1 number, then put and turn by turns: the row of twenty is filled from both ends. */
    private static void putAndTurn() {
        TypeCases x = new TypeCases();
        x.hold(0, 5, 20);
        x.number(0, 5, 7);
        for (int call = 3; call < CALLS; call += 2) {
            A.due("put, call " + call, 1, x.put(0, 0, call / 2 % 20));
            if (call + 1 < CALLS) {
                A.due("turn, call " + (call + 1), 20, x.turn(0));
            }
        }
        A.due("the last call", 7, x.tell(0, 19, 5));
    }

    private static void orderAndTurn() {
        TypeCases x = new TypeCases();
        Shop.row(x, 0, 7, 20, 19, 18, 17, 16, 15, 14, 13, 12, 11, 10, 9, 8, 7, 6, 5, 4, 3, 2, 1);
        // That made 42 calls.
        for (int call = 43; call < CALLS; call += 2) {
            A.due("order, call " + call, 19, x.order(0, 7));
            if (call + 1 < CALLS) {
                A.due("turn, call " + (call + 1), 20, x.turn(0));
            }
        }
        A.due("the last call", 20, x.tell(0, 19, 7));
    }

    private static void spreadAndGather() {
        TypeCases x = new TypeCases();
        x.hold(0, 5, 20);
        x.hold(1, 7, 20);
        x.number(0, 5, 3);
        x.put(0, 0, 0);
        for (int call = 5; call < CALLS; call += 2) {
            A.due("spread, call " + call, 19, x.spread(0, 0, 100));
            if (call + 1 < CALLS) {
                A.due("gather, call " + (call + 1), 20, x.gather(0, 0, 100, 1));
            }
        }
        A.due("the last call", Shop.bits(3.0), x.tell(1, 19, 7));
    }

    /** Each line is a new row, 170 of them by three calls each; those before it are kept by the lines alone. */
    private static void lines() {
        TypeCases x = new TypeCases();
        x.hold(0, 10, 20);
        for (int line = 0; line < 170; line++) {
            A.due("hold", 1, x.hold(1, 3, line % 21));
            A.due("lift", 1, x.lift(0, 1));
            A.due("put", 1, x.put(0, 0, line % 20));
        }
        A.due("the last call", 169 % 20, x.find(0, 0));
    }
}
