/** Counts the answers that are not as due, and tells by which sentence of which promise they were due. */
final class Dues {
    private static final int PROMISES = 36;

    private final int[] looks = new int[PROMISES + 1];
    private int wrong;
    private int promise;
    private String sentence = "";

    /** What is looked at from here on is due by this sentence of the document. */
    void by(int promiseNumber, String words) {
        promise = promiseNumber;
        sentence = words;
    }

    void due(String call, int got, int want) {
        due(call, String.valueOf(got), String.valueOf(want));
    }

    void due(String call, boolean got, boolean want) {
        due(call, String.valueOf(got), String.valueOf(want));
    }

    void due(String call, String got, String want) {
        looks[promise]++;
        if (!got.equals(want)) {
            wrong++;
            System.out.println("promise " + promise + ", '" + sentence + "': " + call + " answered " + got
                + ", due is " + want);
        }
    }

    void not(String call, int got, int refused) {
        due(call + " is refused", got == refused, false);
    }

    void fraction(String call, int above, int below, int wantAbove, int wantBelow) {
        due(call, above + " by " + below, wantAbove + " by " + wantBelow);
    }

    /** Every promise from the one to the other must have been looked at. */
    void needs(int from, int to) {
        for (int i = from; i <= to; i++) {
            if (looks[i] == 0) {
                wrong++;
                System.out.println("promise " + i + " is not looked at");
            }
        }
    }

    void end() {
        int all = 0;
        for (int many : looks) {
            all += many;
        }
        System.out.println(wrong == 0 ? "all answers are as due: " + all : wrong + " answers are not as due");
        if (wrong != 0) {
            System.exit(1);
        }
    }
}
