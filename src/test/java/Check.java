/** Counts what passed and what failed, and prints each failure. */
final class Check {
    private static int passed = 0;
    private static int failed = 0;

    private Check() {
    }

    static void same(String what, String got, String due) {
        if (got.equals(due)) {
            passed++;
            return;
        }
        failed++;
        System.out.println(what + " answered " + got + ", due is " + due);
    }

    static boolean allPassed() {
        return failed == 0;
    }

    static String summary() {
        return passed + " passed, " + failed + " failed";
    }
}
