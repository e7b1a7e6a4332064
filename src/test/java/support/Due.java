/** Counts the answers that are not as due, and ends a test with exit code 1 if there was one. */
final class Due {
    private static final int MOST_PRINTED = 40;
    private static String sentence = "";
    private static int sentences = 0;
    private static int looked = 0;
    private static int wrong = 0;

    private Due() {
    }

    /** What the answers that follow are due by; it is printed before each that is wrong. */
    static void by(String told) {
        sentence = told;
        sentences++;
    }

    static void is(String call, long got, long want) {
        looked++;
        if (got != want) {
            wrong++;
            if (wrong <= MOST_PRINTED) {
                System.out.println("[" + sentence + "] " + call + " answered " + got + ", due is " + want);
            }
        }
    }

    static void is(String call, boolean got, boolean want) {
        is(call, got ? 1 : 0, want ? 1 : 0);
    }

    static void end() {
        System.out.println(sentences + " sentences, " + looked + " answers looked at, " + wrong + " not as due");
        if (wrong > 0 || looked == 0) {
            System.exit(1);
        }
    }
}
