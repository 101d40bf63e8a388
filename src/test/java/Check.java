/** Counts the calls that answered as is due and prints those that did not. */
final class Check {
    private int passed;
    private int failed;
    private String promise = "";

    interface Call {
        Object answer();
    }

    void begin(String name) {
        promise = name;
    }

    /** Due is an answer, or the class of the exception that the call throws. */
    void due(String call, Call made, Object due) {
        Object answer = answerOf(made);
        if (due.equals(answer)) {
            passed++;
        } else {
            failed++;
            System.out.println(promise + ": " + call + " answered " + answer + ", due is " + due);
        }
    }

    static Object answerOf(Call made) {
        try {
            return made.answer();
        } catch (RuntimeException thrown) {
            return thrown.getClass();
        }
    }

    int failures() {
        return failed;
    }

    int passes() {
        return passed;
    }
}
