/** Counts wrong answers and prints each of them, with the sentence of the document that it breaks. */
final class Check {
    private String sentence = "";
    private int wrong;

    /** From here on the answers are due by this sentence. */
    void says(String words) {
        sentence = "\"" + words + "\": ";
    }

    void due(String what, long got, long want) {
        due(what, Long.toString(got), Long.toString(want));
    }

    void due(String what, String got, String want) {
        if (!got.equals(want)) {
            wrong++;
            System.out.println(sentence + what + ": answered " + got + ", due is " + want);
        }
    }

    /** What a call answers, or which exception it throws. */
    interface Call {
        long answer();
    }

    static String told(Call call) {
        try {
            return Long.toString(call.answer());
        } catch (RuntimeException e) {
            return "throws." + e.getClass().getSimpleName();
        }
    }

    void end(String name) {
        System.out.println(name + ": " + (wrong == 0 ? "all answers are as due" : wrong + " answers are not as due"));
        if (wrong != 0) {
            System.exit(1);
        }
    }
}
