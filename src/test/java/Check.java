/** Counts tests; a test is wrong if one answer in it is not the one that is due. */
final class Check {
    private int passed;
    private int failed;
    private int wrong;

    interface Test {
        void run(Check check);
    }

    void test(String name, Test test) {
        wrong = 0;
        try {
            test.run(this);
        } catch (RuntimeException e) {
            wrong++;
            System.out.println("  it threw " + e);
        }
        if (wrong == 0) {
            passed++;
        } else {
            failed++;
        }
        System.out.println((wrong == 0 ? "passed: " : "FAILED: ") + name);
    }

    void due(String call, long got, long want) {
        if (got != want) {
            wrong++;
            System.out.println("  " + call + " answered " + got + ", due is " + want);
        }
    }

    int passed() {
        return passed;
    }

    int failed() {
        return failed;
    }
}
