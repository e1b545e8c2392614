/** What each call throws for wrong inputs, which of two comes first, and that nothing is changed then. */
public final class WrongInputTest {
    private static final int[] NO_CONTROL = {-1, 4, 5, 1000, Integer.MIN_VALUE, Integer.MAX_VALUE};
    private static final Class<IndexOutOfBoundsException> INDEX = IndexOutOfBoundsException.class;
    private static final Class<IllegalArgumentException> ARGUMENT = IllegalArgumentException.class;

    private final Checks checks = new Checks();
    private final RecordSystem x = Disks.wanting("A     ", "B     ", "??????", "D     ");

    public static void main(String[] args) {
        new WrongInputTest().run();
    }

    private void run() {
        x.login(3);
        x.make(0);
        x.write(0);
        x.make(1);
        x.power(2);
        x.at(1, 9, true);
        String before = Disks.everything(x);
        controls();
        numbers();
        bothWrong();
        checks.same("all of it", Disks.everything(x), before);
        whatCannotBeSeen();
        edgesAreAllowed();
        checks.finish();
    }

    private void controls() {
        for (int c : NO_CONTROL) {
            checks.refuses("name(" + c + ", 0)", INDEX, () -> x.name(c, 0));
            checks.refuses("open(" + c + ")", INDEX, () -> x.open(c));
            checks.refuses("make(" + c + ")", INDEX, () -> x.make(c));
            checks.refuses("close(" + c + ")", INDEX, () -> x.close(c));
            checks.refuses("erase(" + c + ")", INDEX, () -> x.erase(c));
            checks.refuses("rename(" + c + ", 0)", INDEX, () -> x.rename(c, 0));
            checks.refuses("rename(0, " + c + ")", INDEX, () -> x.rename(0, c));
            checks.refuses("guard(" + c + ", true)", INDEX, () -> x.guard(c, true));
            checks.refuses("search(" + c + ", 0)", INDEX, () -> x.search(c, 0));
            checks.refuses("read(" + c + ")", INDEX, () -> x.read(c));
            checks.refuses("write(" + c + ")", INDEX, () -> x.write(c));
            checks.refuses("at(" + c + ", 0, true)", INDEX, () -> x.at(c, 0, true));
            checks.refuses("size(" + c + ")", INDEX, () -> x.size(c));
            checks.refuses("has(" + c + ", 0)", INDEX, () -> x.has(c, 0));
        }
    }

    private void numbers() {
        for (int n : new int[] {-1, Integer.MIN_VALUE, Integer.MAX_VALUE}) {
            number(n, n, n, n, n);
        }
        number(16, 1001, 32, 100001, 11);
        for (int i : new int[] {-1, Integer.MIN_VALUE, Integer.MAX_VALUE}) {
            index(i, i, i);
        }
        index(16, 2, 4096);
        for (int v : new int[] {-1, 256, Integer.MIN_VALUE, Integer.MAX_VALUE}) {
            checks.refuses("set(0, " + v + ")", ARGUMENT, () -> x.set(0, v));
            checks.refuses("spoil(0, " + v + ")", ARGUMENT, () -> x.spoil(0, v));
        }
        for (int what : new int[] {-1, 4, Integer.MIN_VALUE, Integer.MAX_VALUE}) {
            checks.refuses("told(" + what + ")", ARGUMENT, () -> x.told(what));
        }
    }

    private void number(int user, int n, int from, int record, int what) {
        checks.refuses("login(" + user + ")", ARGUMENT, () -> x.login(user));
        checks.refuses("power(" + n + ")", ARGUMENT, () -> x.power(n));
        checks.refuses("search(0, " + from + ")", ARGUMENT, () -> x.search(0, from));
        checks.refuses("at(0, " + record + ", true)", ARGUMENT, () -> x.at(0, record, true));
        checks.refuses("at(3, " + record + ", false), not open", ARGUMENT, () -> x.at(3, record, false));
        checks.refuses("has(0, " + what + ")", ARGUMENT, () -> x.has(0, what));
        checks.refuses("has(3, " + what + "), not open", ARGUMENT, () -> x.has(3, what));
    }

    private void index(int i, int half, int place) {
        checks.refuses("set(" + i + ", 0)", INDEX, () -> x.set(i, 0));
        checks.refuses("buffer(" + half + ")", INDEX, () -> x.buffer(half));
        checks.refuses("disk(" + place + ")", INDEX, () -> x.disk(place));
        checks.refuses("spoil(" + place + ", 0)", INDEX, () -> x.spoil(place, 0));
    }

    private void bothWrong() {
        checks.refuses("search(4, 32)", INDEX, () -> x.search(4, 32));
        checks.refuses("at(-1, -1, true)", INDEX, () -> x.at(-1, -1, true));
        checks.refuses("has(4, 11)", INDEX, () -> x.has(4, 11));
        checks.refuses("set(16, 256)", INDEX, () -> x.set(16, 256));
        checks.refuses("spoil(-1, -1)", INDEX, () -> x.spoil(-1, -1));
    }

    private void whatCannotBeSeen() {
        checks.due("make(0) with the last power", x.make(0), 2);
        checks.due("its user", x.disk(32), 3);
        checks.due("its name", x.disk(33), 'A');
        checks.due("make(0) behind the last power", x.make(0), -9);
    }

    private void edgesAreAllowed() {
        checks.due("login(15)", x.login(15), 56);
        checks.due("login(0)", x.login(0), 56);
        x.power(0);
        x.power(1000);
        checks.due("search(3, 31)", x.search(3, 31), -1);
        checks.due("at(3, 100000, true), not open", x.at(3, 100000, true), -1);
        checks.due("has(3, 10)", x.has(3, 10), 0);
        checks.due("rename(3, 3)", x.rename(3, 3), -1);
    }
}
