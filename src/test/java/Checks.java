import java.util.function.Consumer;
import java.util.function.Supplier;

/** Counts answers that are due and those that are not, and ends a test with exit code 1 if one was wrong. */
final class Checks {
    private int right = 0;
    private int wrong = 0;
    private int sentences = 0;
    private String sentence = "";

    /** What follows is due by this sentence of the document; a wrong answer is printed with it. */
    void sentence(String words) {
        sentences++;
        sentence = "[" + words + "] ";
    }

    void due(String what, long got, long want) {
        if (got == want) {
            right++;
            return;
        }
        wrong++;
        System.out.println(sentence + what + " answered " + got + ", due is " + want);
    }

    void same(String what, String got, String want) {
        if (got.equals(want)) {
            right++;
            return;
        }
        wrong++;
        System.out.println(sentence + what + " answered " + got + ", due is " + want);
    }

    void holds(String what, boolean condition) {
        due(what + " (1 holds, 0 doesn't)", condition ? 1 : 0, 1);
    }

    /** The calls may answer or throw what they like, but they change nothing. */
    void changesNothing(String what, Supplier<RecordSystem> run, Consumer<RecordSystem> calls) {
        String after = Disks.everything(() -> {
            RecordSystem x = run.get();
            calls.accept(x);
            return x;
        });
        same("all behind " + what, after, Disks.everything(run));
    }

    void refuses(String what, Class<? extends RuntimeException> want, Runnable call) {
        Class<?> got = null;
        try {
            call.run();
        } catch (RuntimeException e) {
            got = e.getClass();
        }
        boolean same = got == want;
        holds(what + " throws " + want.getSimpleName() + ", it threw " + got, same);
    }

    void finish() {
        String told = sentences == 0 ? "" : " for " + sentences + " sentences";
        System.out.println(right + " answers as due" + told + ", " + wrong + " wrong");
        if (wrong != 0 || right == 0) {
            System.exit(1);
        }
    }
}
