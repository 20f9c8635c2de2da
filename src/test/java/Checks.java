import java.util.ArrayList;
import java.util.List;

/** Counts tests that passed and failed; a test fails with its first answer that is not due. */
final class Checks {
    interface Test {
        void run();
    }

    private static final int MOST_SHOWN = 5;

    private final boolean showsNames;
    private final List<String> wrong = new ArrayList<>();
    private int passed = 0;
    private int failed = 0;

    Checks(boolean showsNames) {
        this.showsNames = showsNames;
    }

    void test(String name, Test test) {
        wrong.clear();
        try {
            test.run();
        } catch (RuntimeException thrown) {
            wrong.add("threw " + thrown);
        }
        if (wrong.isEmpty()) {
            passed++;
            if (showsNames) {
                System.out.println("passed " + name);
            }
            return;
        }
        failed++;
        System.out.println("FAILED " + name);
        for (int i = 0; i < wrong.size() && i < MOST_SHOWN; i++) {
            System.out.println("    " + wrong.get(i));
        }
        if (wrong.size() > MOST_SHOWN) {
            System.out.println("    .. and " + (wrong.size() - MOST_SHOWN) + " more");
        }
    }

    void due(String call, long got, long want) {
        if (got != want) {
            wrong.add(call + " answered " + got + ", due is " + want);
        }
    }

    void due(String call, double got, double want) {
        if (Double.compare(got, want) != 0) {
            wrong.add(call + " answered " + got + ", due is " + want);
        }
    }

    void due(String call, String got, String want) {
        if (!got.equals(want)) {
            wrong.add(call + " answered\n        " + got + "\n    due is\n        " + want);
        }
    }

    boolean anyWrong() {
        return !wrong.isEmpty();
    }

    /** Prints the closing line and tells the exit code. */
    int close() {
        System.out.println(passed + " passed, " + failed + " failed");
        return failed == 0 && passed > 0 ? 0 : 1;
    }
}
