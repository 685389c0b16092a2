/** Counts and prints the answers that are not as due. */
final class Answers {
    private final String test;
    private int wrong = 0;

    Answers(String test) {
        this.test = test;
    }

    void due(String what, long want, long got) {
        if (got != want) {
            wrong++;
            System.out.println(test + ": " + what + " answered " + got + ", due is " + want);
        }
    }

    /** The answer, and the cause that failed() tells behind it. */
    void due(TypeCases x, String what, long want, int cause, long got) {
        due(what, want, got);
        due(what + ", then failed()", cause, x.failed());
    }

    void holds(String what, boolean asDue) {
        due(what, 1, asDue ? 1 : 0);
    }

    int wrong() {
        return wrong;
    }

    void end() {
        System.out.println(test + ": " + (wrong == 0 ? "all as due" : wrong + " not as due"));
        if (wrong != 0) {
            System.exit(1);
        }
    }
}
