/** Counts the answers that are not as due, prints them, and ends a test. */
final class Check {
    private static final int MOST_PRINTED = 50;
    private String sentence = "";
    private int wrong;
    private int asked;

    /** The sentence of the document that the answers from here on are due by. */
    void says(String next) {
        sentence = next;
    }

    void due(String call, long want, long got) {
        asked++;
        if (got != want) {
            wrong++;
            if (wrong <= MOST_PRINTED) {
                System.out.println(call + " answered " + got + ", due is " + want);
                if (!sentence.isEmpty()) {
                    System.out.println("    the document: " + sentence);
                }
            }
        }
    }

    void due(String call, boolean want, boolean got) {
        due(call, want ? 1 : 0, got ? 1 : 0);
    }

    /** A colour as convert() answers it. */
    static long colour(int v0, int v1, int v2) {
        return v0 * 4294967296L + v1 * 65536L + v2;
    }

    void dueColour(String call, long got, int v0, int v1, int v2) {
        due(call, colour(v0, v1, v2), got);
    }

    void end() {
        System.out.println(asked + " answers, " + wrong + " not as due");
        if (wrong != 0) {
            System.exit(1);
        }
    }
}
