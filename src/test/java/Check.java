/** Counts answers that are not as due, and ends the test with exit code 1 if there were any. */
final class Check {
    private int wrong;
    private int seen;
    private String sentence = "";

    /** The sentence of the document that the answers below are due by; it is told with each that is wrong. */
    void sentence(String of) {
        sentence = of + " - ";
    }

    void due(String call, long got, long want) {
        seen++;
        if (got != want) {
            wrong++;
            System.out.println(sentence + call + " answered " + got + ", due is " + want);
        }
    }

    void that(String what, boolean holds) {
        due(what, holds ? 1 : 0, 1);
    }

    void end() {
        System.out.println(wrong == 0 ? seen + " answers are as due" : wrong + " of " + seen + " answers are not as due");
        if (wrong != 0) {
            System.exit(1);
        }
    }
}
