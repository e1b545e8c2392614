/** Counts answers that are due and those that are not, and ends a test with exit code 1 if one was wrong. */
final class Checks {
    private int right = 0;
    private int wrong = 0;

    void due(String what, long got, long want) {
        if (got == want) {
            right++;
            return;
        }
        wrong++;
        System.out.println(what + " answered " + got + ", due is " + want);
    }

    void same(String what, String got, String want) {
        if (got.equals(want)) {
            right++;
            return;
        }
        wrong++;
        System.out.println(what + " answered " + got + ", due is " + want);
    }

    void holds(String what, boolean condition) {
        due(what + " (1 holds, 0 doesn't)", condition ? 1 : 0, 1);
    }

    void refuses(String what, Class<? extends RuntimeException> want, Runnable call) {
        Class<?> got = null;
        try {
            call.run();
        } catch (RuntimeException e) {
            got = e.getClass();
        }
        boolean same = got == want;
        holds(what + " throws " + want.getSimpleName() + ", it threw " + got, same);
    }

    void finish() {
        System.out.println(right + " answers as due, " + wrong + " wrong");
        if (wrong != 0 || right == 0) {
            System.exit(1);
        }
    }
}
