/** Counts the answers that are not as due and ends the test with 1 if there was one. */
final class Check {
    private int asked;
    private int wrong;
    private String sentence = "";

    /** The words of the document that the answers from here on are due to. */
    void sentence(String words) {
        sentence = "\"" + words + "\": ";
    }

    void due(String call, long got, long want) {
        asked++;
        if (got != want) {
            wrong++;
            System.out.println(sentence + call + " answered " + got + ", due is " + want);
        }
    }

    void isTrue(String what, boolean holds) {
        due(what, holds ? 1 : 0, 1);
    }

    void end() {
        System.out.println(asked + " answers, " + wrong + " not as due");
        if (wrong != 0 || asked == 0) {
            System.exit(1);
        }
    }
}
