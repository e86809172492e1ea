/** Counts the calls of a test whose answer is not the one that is due, and tells each of them. */
final class Checks {
    private final String test;
    private String sentence = "";
    private int sentences;
    private int held;
    private int wrong;

    Checks(String test) {
        this.test = test;
    }

    /** Runs what holds one sentence of DOC.md; whatever fails in it is told with the sentence. */
    void holds(String where, String words, Runnable checks) {
        int before = held;
        sentence = where + ", \"" + words + "\": ";
        sentences++;
        try {
            checks.run();
        } catch (RuntimeException thrown) {
            tell("a call", false, thrown.toString(), "no exception");
        }
        if (held == before) tell("nothing", false, "nothing", "something");
        sentence = "";
    }

    void is(String call, long got, long due) {
        tell(call, got == due, String.valueOf(got), String.valueOf(due));
    }

    void is(String call, boolean got, boolean due) {
        tell(call, got == due, String.valueOf(got), String.valueOf(due));
    }

    void is(String call, String got, String due) {
        tell(call, got.equals(due), got, due);
    }

    void isReal(String call, double got, double due) {
        tell(call, got == due, String.valueOf(got), String.valueOf(due));
    }

    private void tell(String call, boolean fits, String got, String due) {
        held++;
        if (fits) return;
        wrong++;
        System.out.println(test + ": " + sentence + call + " answered " + got + ", due is " + due);
    }

    /** Ends the program with exit code 1 if an answer was wrong. */
    void end() {
        String ofSentences = sentences == 0 ? "" : " (" + sentences + " sentences)";
        System.out.println(test + ": " + (held - wrong) + " of " + held + " answers are as due" + ofSentences);
        if (wrong != 0 || held == 0) System.exit(1);
    }
}
