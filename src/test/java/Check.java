import java.util.concurrent.Callable;

/** Counts named tests; a test has failed if one of its checks does not hold. */
final class Check {
    private int passed;
    private int failed;
    private String name = "";
    private boolean holds = true;

    interface Body {
        void run() throws Exception;
    }

    void test(String testName, Body body) {
        name = testName;
        holds = true;
        try {
            body.run();
        } catch (Exception e) {
            complain("the test threw " + e);
            e.printStackTrace(System.out);
        }
        if (holds) {
            passed++;
        } else {
            failed++;
        }
    }

    void same(String what, long got, long due) {
        if (got != due) {
            complain(what + " answered " + got + ", due is " + due);
        }
    }

    void sameDouble(String what, double got, double due) {
        if (Double.doubleToLongBits(got) != Double.doubleToLongBits(due)) {
            complain(what + " answered " + got + ", due is " + due);
        }
    }

    void isTrue(String what, boolean got) {
        if (!got) {
            complain(what);
        }
    }

    /** The very class is due: a subclass would be one that the machine throws. */
    void raises(String what, Class<? extends Exception> due, Callable<?> call) {
        try {
            Object got = call.call();
            complain(what + " answered " + got + ", due is " + due.getSimpleName());
        } catch (Exception e) {
            if (e.getClass() != due) {
                complain(what + " threw " + e + ", due is " + due.getSimpleName());
            }
        }
    }

    void complain(String text) {
        holds = false;
        System.out.println(name + ": " + text);
    }

    /** To be the last call of a main method. */
    void end() {
        System.out.println(passed + " passed, " + failed + " failed");
        if (failed != 0 || passed == 0) {
            System.exit(1);
        }
    }
}
