import java.util.List;
import java.util.function.Consumer;
import java.util.function.Supplier;

/**
 * What each call refuses: the last input that is taken and the first that is refused on each side, what is thrown,
 * and that a call that throws changes nothing, whatever state the object is in.
 */
public final class RefusedCallsTest {
    private static final Class<IndexOutOfBoundsException> INDEX = IndexOutOfBoundsException.class;
    private static final Class<IllegalArgumentException> ARGUMENT = IllegalArgumentException.class;
    private static final List<Supplier<RecordSystem>> STATES = List.of(
        RecordSystem::new, RefusedCallsTest::someOpen, RefusedCallsTest::powerGone, RefusedCallsTest::allFull);

    /** One input of a call: the call with that input. */
    private interface Call {
        void with(RecordSystem x, int input);
    }

    private final Checks checks = new Checks();

    public static void main(String[] args) {
        new RefusedCallsTest().run();
    }

    private void run() {
        startsAndPower();
        controls();
        controlsThatMoveRecords();
        secondInputs();
        bytes();
        bothInputsWrong();
        notOpenIsNoExcuse();
        checks.finish();
    }

    private static RecordSystem someOpen() {
        RecordSystem x = Disks.wanting("A     ", "B     ", "??????", "D     ");
        x.login(3);
        x.make(0);
        x.write(0);
        x.make(1);
        x.at(1, 27, true);
        x.write(1);
        Disks.entry(x, 5, 3, "D     ", 0, 9, 40, 0, 42);
        Disks.readOnly(x, 5);
        x.open(3);
        x.read(3);
        Disks.fill(x, 77);
        x.power(6);
        return x;
    }

    private static RecordSystem powerGone() {
        RecordSystem x = someOpen();
        x.power(1);
        x.at(0, 8, true);
        x.at(0, 12, true);
        x.make(2);
        return x;
    }

    private static RecordSystem allFull() {
        RecordSystem x = new RecordSystem();
        x.login(15);
        x.make(0);
        for (int r = 0; r < 56 * 4; r += 4) {
            x.at(0, r, true);
        }
        for (int i = 0; i < 24; i++) {
            x.make(1);
        }
        return x;
    }

    /** Takes all from first to last as far as these show it, and refuses what is beyond on both sides. */
    private void bounds(String what, int first, int last, Class<? extends RuntimeException> thrown, Call call) {
        takes(what, first, call);
        takes(what, last, call);
        refuses(what, first - 1, thrown, call);
        refuses(what, last + 1, thrown, call);
        refuses(what, Integer.MIN_VALUE, thrown, call);
        refuses(what, Integer.MAX_VALUE, thrown, call);
        refuses(what, first + 65536 * 256, thrown, call);
        refuses(what, last - 65536 * 256, thrown, call);
    }

    private void takes(String what, int input, Call call) {
        for (Supplier<RecordSystem> state : STATES) {
            RuntimeException thrown = null;
            try {
                call.with(state.get(), input);
            } catch (RuntimeException e) {
                thrown = e;
            }
            checks.holds(what + " takes " + input + ", it threw " + thrown, thrown == null);
        }
    }

    private void refuses(String what, int input, Class<? extends RuntimeException> thrown, Call call) {
        String told = what + " with " + input;
        for (Supplier<RecordSystem> state : STATES) {
            checks.refuses(told, thrown, () -> call.with(state.get(), input));
            checks.changesNothing(told, state, x -> withoutItsThrow(() -> call.with(x, input)));
        }
    }

    private static void withoutItsThrow(Runnable call) {
        try {
            call.run();
        } catch (IndexOutOfBoundsException | IllegalArgumentException e) {
            // Which one it is has been looked at before; here only what is left behind counts.
        }
    }

    private void startsAndPower() {
        checks.sentence("Promise 2: IllegalArgumentException: user is not 0 to 15.");
        bounds("login(user)", 0, 15, ARGUMENT, (x, user) -> x.login(user));
        checks.sentence("Promise 3: IllegalArgumentException: n is not 0 to 1000.");
        bounds("power(n)", 0, 1000, ARGUMENT, (x, n) -> x.power(n));
    }

    private void controls() {
        checks.sentence("Promise 4: IndexOutOfBoundsException: there is no such control.");
        bounds("name(control, 0)", 0, 3, INDEX, (x, c) -> x.name(c, 0));
        checks.sentence("Promise 5: there is no such control (here and in what follows).");
        bounds("open(control)", 0, 3, INDEX, (x, c) -> x.open(c));
        checks.sentence("Promise 6: there is no such control");
        bounds("make(control)", 0, 3, INDEX, (x, c) -> x.make(c));
        checks.sentence("Promise 7: there is no such control");
        bounds("close(control)", 0, 3, INDEX, (x, c) -> x.close(c));
        checks.sentence("Promise 8: there is no such control");
        bounds("erase(control)", 0, 3, INDEX, (x, c) -> x.erase(c));
        checks.sentence("Promise 9: there is no such control");
        bounds("rename(control, 0)", 0, 3, INDEX, (x, c) -> x.rename(c, 0));
        bounds("rename(0, other)", 0, 3, INDEX, (x, c) -> x.rename(0, c));
        bounds("rename(3, other)", 0, 3, INDEX, (x, c) -> x.rename(3, c));
        checks.sentence("Promise 10: there is no such control");
        bounds("guard(control, true)", 0, 3, INDEX, (x, c) -> x.guard(c, true));
        bounds("guard(control, false)", 0, 3, INDEX, (x, c) -> x.guard(c, false));
        checks.sentence("Promise 11: there is no such control");
        bounds("search(control, 0)", 0, 3, INDEX, (x, c) -> x.search(c, 0));
    }

    private void controlsThatMoveRecords() {
        checks.sentence("Promise 12: there is no such control");
        bounds("read(control)", 0, 3, INDEX, (x, c) -> x.read(c));
        checks.sentence("Promise 13: there is no such control");
        bounds("write(control)", 0, 3, INDEX, (x, c) -> x.write(c));
        checks.sentence("Promise 14: there is no such control");
        bounds("at(control, 0, true)", 0, 3, INDEX, (x, c) -> x.at(c, 0, true));
        bounds("at(control, 0, false)", 0, 3, INDEX, (x, c) -> x.at(c, 0, false));
        checks.sentence("Promise 15: there is no such control");
        bounds("size(control)", 0, 3, INDEX, (x, c) -> x.size(c));
        checks.sentence("Promise 16: there is no such control");
        bounds("has(control, 0)", 0, 3, INDEX, (x, c) -> x.has(c, 0));
    }

    private void secondInputs() {
        checks.sentence("Promise 11: IllegalArgumentException: from is not 0 to 31.");
        bounds("search(0, from)", 0, 31, ARGUMENT, (x, from) -> x.search(0, from));
        checks.sentence("Promise 14: IllegalArgumentException: record is below 0 or above 100000.");
        bounds("at(0, record, true)", 0, 100000, ARGUMENT, (x, record) -> x.at(0, record, true));
        bounds("at(0, record, false)", 0, 100000, ARGUMENT, (x, record) -> x.at(0, record, false));
        checks.sentence("Promise 16: IllegalArgumentException: what is not 0 to 10.");
        bounds("has(0, what)", 0, 10, ARGUMENT, (x, what) -> x.has(0, what));
        checks.sentence("Promise 21: IllegalArgumentException: another what.");
        bounds("told(what)", 0, 3, ARGUMENT, (x, what) -> x.told(what));
        for (int what = 1; what < 10; what++) {
            takes("has(0, what)", what, (x, w) -> x.has(0, w));
        }
        takes("told(what)", 1, (x, what) -> x.told(what));
        takes("told(what)", 2, (x, what) -> x.told(what));
    }

    private void bytes() {
        checks.sentence("Promise 17: IndexOutOfBoundsException: i is not 0 to 15.");
        bounds("set(i, 9)", 0, 15, INDEX, (x, i) -> x.set(i, 9));
        checks.sentence("Promise 17: IllegalArgumentException: v is not 0 to 255.");
        bounds("set(0, v)", 0, 255, ARGUMENT, (x, v) -> x.set(0, v));
        bounds("set(15, v)", 0, 255, ARGUMENT, (x, v) -> x.set(15, v));
        checks.sentence("Promise 18: IndexOutOfBoundsException: half is not 0 or 1.");
        bounds("buffer(half)", 0, 1, INDEX, (x, half) -> x.buffer(half));
        checks.sentence("Promise 19: IndexOutOfBoundsException: it is not 0 to 4095.");
        bounds("disk(i)", 0, 4095, INDEX, (x, i) -> x.disk(i));
        checks.sentence("Promise 20: IndexOutOfBoundsException: i is not 0 to 4095.");
        bounds("spoil(i, 9)", 0, 4095, INDEX, (x, i) -> x.spoil(i, 9));
        checks.sentence("Promise 20: IllegalArgumentException: v is not 0 to 255.");
        bounds("spoil(0, v)", 0, 255, ARGUMENT, (x, v) -> x.spoil(0, v));
        bounds("spoil(4095, v)", 0, 255, ARGUMENT, (x, v) -> x.spoil(4095, v));
    }

    // The document doesn't say which one comes first; the program looks at its inputs in their order.
    private void bothInputsWrong() {
        checks.sentence("Methods throw what their comments name; a call that throws changes nothing.");
        both(x -> x.rename(-1, 4), INDEX);
        both(x -> x.search(4, 32), INDEX);
        both(x -> x.at(-1, -1, true), INDEX);
        both(x -> x.at(4, 100001, false), INDEX);
        both(x -> x.has(4, 11), INDEX);
        both(x -> x.set(16, 256), INDEX);
        both(x -> x.spoil(-1, -1), INDEX);
    }

    private void both(Consumer<RecordSystem> call, Class<? extends RuntimeException> thrown) {
        refuses("a call wrong twice", 0, thrown, (x, ignored) -> call.accept(x));
    }

    private void notOpenIsNoExcuse() {
        checks.sentence("Methods throw what their comments name; a call that throws changes nothing.");
        RecordSystem x = someOpen();
        x.close(0);
        checks.refuses("at(0, -1, true), not open", ARGUMENT, () -> x.at(0, -1, true));
        checks.refuses("at(0, 100001, false), not open", ARGUMENT, () -> x.at(0, 100001, false));
        checks.refuses("has(0, -1), not open", ARGUMENT, () -> x.has(0, -1));
        checks.refuses("has(0, 11), not open", ARGUMENT, () -> x.has(0, 11));
        checks.due("at(0, 100000, true), not open", x.at(0, 100000, true), -1);
        checks.due("has(0, 10), not open", x.has(0, 10), 0);
    }
}
