/** Counts the answers of one test that are not as they are due, and ends the test with exit code 1 if there are some. */
final class Check {
    private int wrong = 0;
    private int seen = 0;

    void due(String call, long got, long want) {
        seen++;
        if (got != want) {
            wrong++;
            System.out.println(call + " answered " + got + ", due is " + want);
        }
    }

    void holds(String what, boolean so) {
        due(what, so ? 1 : 0, 1);
    }

    /** The three answers of cause() at once. */
    void cause(String after, KindRows rows, int failure, int part, int own) {
        due("cause(0) after " + after, rows.cause(0), failure);
        due("cause(1) after " + after, rows.cause(1), part);
        due("cause(2) after " + after, rows.cause(2), own);
    }

    /** A call that is FAILED, and its cause. */
    void failed(String call, int got, KindRows rows, int failure, int part, int own) {
        due(call, got, KindRows.FAILED);
        cause(call, rows, failure, part, own);
    }

    void end(String test) {
        System.out.println(test + ": " + seen + " answers, " + wrong + " not as due");
        if (wrong != 0 || seen == 0) {
            System.exit(1);
        }
    }
}
