/** Counts what was asked and what was answered otherwise than it is due. */
final class Check {
    private static final int TOLD = 60;
    private static int passed = 0;
    private static int failed = 0;

    private Check() {
    }

    static void due(String call, long got, long want) {
        if (got == want) {
            passed++;
            return;
        }
        failed++;
        if (failed <= TOLD) {
            System.out.println(call + " answered " + got + ", due is " + want);
        }
    }

    static void due(String call, boolean got, boolean want) {
        due(call, got ? 1L : 0L, want ? 1L : 0L);
    }

    static int failures() {
        return failed;
    }

    static String summary() {
        return passed + " passed, " + failed + " failed";
    }
}
