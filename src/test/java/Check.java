import java.util.ArrayList;
import java.util.List;

/** Counts what is as due and tells what is not. */
final class Check {
    private static String title = "";
    private static int passed = 0;
    private static int failed = 0;
    private static boolean good = true;
    private static final int MOST_TOLD = 20;
    private static final List<String> told = new ArrayList<>();
    private static final List<String> titles = new ArrayList<>();

    interface Test {
        void run() throws Exception;
    }

    static void test(String name, Test test) {
        title = name;
        titles.add(name);
        good = true;
        told.clear();
        try {
            test.run();
        } catch (Throwable thrown) {
            fail("threw " + thrown);
            thrown.printStackTrace(System.out);
        }
        if (good) {
            passed++;
        } else {
            failed++;
        }
    }

    static void due(String call, long got, long want) {
        if (got != want) {
            fail(call + " answered " + got + ", due is " + want);
        }
    }

    static void holds(String what, boolean so) {
        if (!so) {
            fail(what + " is not so");
        }
    }

    static void fail(String line) {
        good = false;
        if (told.size() < MOST_TOLD) {
            told.add(line);
            System.out.println(title + ": " + line);
        }
    }

    /** How many tests there are whose name begins so. */
    static long count(String beginning) {
        return titles.stream().filter(name -> name.startsWith(beginning)).count();
    }

    /** Prints the closing line: whether all passed. */
    static boolean close() {
        System.out.println(passed + " passed, " + failed + " failed");
        return failed == 0 && passed > 0;
    }

    private Check() {
    }
}
