/** Compares answers with the ones that are due and ends a test. */
final class Check {
    private static String subject = "";
    private static int wrong = 0;
    private static int looked = 0;

    private Check() {
    }

    /** What the next answers are about, so that a wrong one tells which words are broken. */
    static void about(String words) {
        subject = words + " | ";
    }

    static void due(String call, long got, long want) {
        looked++;
        if (got != want) {
            wrong++;
            System.out.println(subject + call + " answered " + got + ", due is " + want);
        }
    }

    static void due(String call, boolean got, boolean want) {
        due(call, got ? 1L : 0L, want ? 1L : 0L);
    }

    static int wrongSoFar() {
        return wrong;
    }

    static void end() {
        System.out.println(looked + " answers looked at, " + wrong + " wrong");
        if (wrong != 0 || looked == 0) {
            System.exit(1);
        }
    }
}
