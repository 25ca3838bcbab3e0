/** Counts the answers of a test and prints those that are not the due ones. */
final class Due {
    static final int NONE = -1, UNKNOWN = -1001, OUTSIDE = -1002, NOT = -1003, FULL = -1004;

    private final String test;
    private String sentence = "";
    private int asked = 0;
    private int wrong = 0;

    Due(String test) {
        this.test = test;
    }

    /** The document's words that the answers from here on are due to. */
    void sentence(String words) {
        sentence = " [" + words + "]";
    }

    void is(String call, int got, int want) {
        asked++;
        if (got != want) {
            wrong++;
            System.out.println(test + sentence + ": " + call + " answered " + got + ", due is " + want);
        }
    }

    /** The answers of as many calls, the first with 0, the next with 1, and so on. */
    void are(String call, int[] got, int... want) {
        is(call + ", how many answers", got.length, want.length);
        for (int i = 0; i < got.length && i < want.length; i++) {
            is(call + " " + i, got[i], want[i]);
        }
    }

    boolean allWell() {
        return wrong == 0;
    }

    void end() {
        System.out.println(test + ": " + asked + " answers, " + wrong + " not as due");
        if (wrong != 0) {
            System.exit(1);
        }
    }
}
