import java.util.Set;
import java.util.TreeSet;

/** Counts the calls that answered as is due and prints those that did not; keeps which sentences had a test. */
final class Check {
    private final Set<String> quoted = new TreeSet<>();
    private int passed;
    private int failed;
    private int madeInTest = 1;
    private String test = "";

    interface Call {
        Object answer();
    }

    /** Begins a test of a sentence of a promise, or of the document's other parts with 0. */
    void begin(int promise, String... sentences) {
        begin((promise == 0 ? "terms" : "promise " + promise) + ", " + String.join(" / ", sentences));
        quote(promise, sentences);
    }

    /** Tells that the same test is one of these sentences too. */
    void quote(int promise, String... sentences) {
        for (String sentence : sentences) {
            quoted.add(promise + " " + sentence);
        }
    }

    /** Begins a test that goes beyond one sentence. */
    void begin(String name) {
        String before = test;
        boolean isEmpty = madeInTest == 0;
        due("the test ahead has no call: " + before, () -> isEmpty, false);
        madeInTest = 0;
        test = name;
    }

    /** Due is an answer, or the class of the exception that the call throws. */
    void due(String call, Call made, Object due) {
        Object answer = answerOf(made);
        madeInTest++;
        if (due.equals(answer)) {
            passed++;
        } else {
            failed++;
            System.out.println(test + ": " + call + " answered " + answer + ", due is " + due);
        }
    }

    static Object answerOf(Call made) {
        try {
            return made.answer();
        } catch (RuntimeException thrown) {
            return thrown.getClass();
        }
    }

    Set<String> quotes() {
        return quoted;
    }

    int failures() {
        return failed;
    }

    int passes() {
        return passed;
    }
}
