/** Counts and prints the answers that are not as due. */
final class Answers {
    private final String name;
    private String sentence = "";
    private int tests = 0;
    private int wrong = 0;

    Answers(String name) {
        this.name = name;
    }

    /** One test, told by the sentence of the document that it would find broken. */
    void test(String words, Runnable body) {
        tests++;
        sentence = " [" + words + "]";
        body.run();
        sentence = "";
    }

    void due(String what, long want, long got) {
        if (got != want) {
            wrong++;
            System.out.println(name + sentence + ": " + what + " answered " + got + ", due is " + want);
        }
    }

    /** The answer, and the cause that failed() tells behind it. */
    void due(TypeCases x, String what, long want, int cause, long got) {
        due(what, want, got);
        due(what + ", then failed()", cause, x.failed());
    }

    void same(String what, String want, String got) {
        if (!got.equals(want)) {
            wrong++;
            System.out.println(name + sentence + ": " + what + " left " + got + ", due is " + want);
        }
    }

    void holds(String what, boolean asDue) {
        due(what, 1, asDue ? 1 : 0);
    }

    int wrong() {
        return wrong;
    }

    void end() {
        String many = tests == 0 ? "" : tests + " tests, ";
        System.out.println(name + ": " + many + (wrong == 0 ? "all as due" : wrong + " not as due"));
        if (wrong != 0) {
            System.exit(1);
        }
    }
}
