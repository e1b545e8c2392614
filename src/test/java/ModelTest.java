import java.util.Random;
import java.util.function.LongSupplier;

/** Runs of calls without a plan: the program answers each one as the document told a second time (Model) does. */
public final class ModelTest {
    private static final int RUNS = 4000;
    // Behind these come at most one entry of 16 calls and the last look of 178: an object answers for 512 in all.
    private static final int CALLS = 300;
    private static final int PART = 128;

    private static final int THREW_INDEX = -1001, THREW_ARGUMENT = -1002, THREW_OTHER = -1003;

    private static final String[] NAMES = {"      ", "      ", "A     ", "AB    ", "A?    ", "??????", "?B????"};
    private static final int[] STRETCHES = {0, 0, 0, 1, 1, 1, 2, 3, 14, 15, 16};
    private static final int[] PLACES = {0, 1, 3, 4, 8, 15, 26, 27, 27};
    private static final int[] POWERS = {0, 0, 1, 1, 2, 3, 4, 6, 30, 1000, 1001};

    private final Checks checks = new Checks();
    private String run;
    private Random random;
    private RecordSystem x;
    private Model m;
    private int calls;

    public static void main(String[] args) {
        ModelTest test = new ModelTest();
        for (int seed = 0; seed < RUNS; seed++) {
            test.play(seed);
        }
        test.checks.finish();
    }

    private void play(int seed) {
        run = "run " + seed + ", call ";
        random = new Random(seed);
        x = new RecordSystem();
        m = new Model();
        calls = 0;
        if (seed % 4 == 1) {
            fillDirectory();
        } else if (seed % 4 == 2) {
            fillDisk();
        }
        while (calls < CALLS) {
            call(random.nextInt(40));
        }
        look(seed);
    }

    /** Leaves some entries free, so that the run itself comes to the last one. */
    private void fillDirectory() {
        int free = random.nextInt(5);
        for (int e = 0; e < 32 - free; e++) {
            int c = random.nextInt(4);
            same("make(" + c + ")", () -> x.make(c), () -> m.make(c));
        }
    }

    /** Leaves some blocks untaken, so that the run itself comes to the last one. */
    private void fillDisk() {
        int free = random.nextInt(8);
        for (int b = 8; b < 64 - free; b++) {
            spoil(16 * (20 + b / 7) + 9 + b % 7, b);
        }
        for (int e = 21; e < 30; e++) {
            spoil(16 * e, 7);
        }
        login(0);
    }

    private void call(int kind) {
        int c = random.nextInt(80) == 0 ? random.nextBoolean() ? 4 : -1 : random.nextInt(random.nextBoolean() ? 2 : 4);
        if (kind < 18) {
            record(c, kind);
        } else if (kind < 29) {
            file(c, kind);
        } else {
            state(c, kind);
        }
    }

    private void record(int c, int kind) {
        if (c >= 0 && c < 4 && m.has(c, 0) == 0 && random.nextInt(4) > 0) {
            openOrMake(c);
        }
        switch (kind) {
            case 0: case 1: case 2: case 3:
                same("read(" + c + ")", () -> x.read(c), () -> m.read(c));
                break;
            case 4: case 5: case 6: case 7: case 8: case 9: case 10:
                same("write(" + c + ")", () -> x.write(c), () -> m.write(c));
                break;
            case 11: case 12: case 13: case 14: case 15: case 16:
                at(c, one(STRETCHES) * 28 + one(PLACES), random.nextBoolean());
                break;
            default:
                at(c, random.nextInt(random.nextBoolean() ? 100 : 100010) - 1, random.nextBoolean());
                break;
        }
    }

    private void file(int c, int kind) {
        switch (kind) {
            case 18: case 19: openOrMake(c); break;
            case 20: case 21: same("close(" + c + ")", () -> x.close(c), () -> m.close(c)); break;
            case 22: same("erase(" + c + ")", () -> x.erase(c), () -> m.erase(c)); break;
            case 23: rename(c, random.nextInt(20) == 0 ? 4 : random.nextInt(4)); break;
            case 24: guard(c, random.nextInt(3) == 0); break;
            case 25: search(c, random.nextInt(34) - 1); break;
            case 26: same("size(" + c + ")", () -> x.size(c), () -> m.size(c)); break;
            case 27: name(c, name()); break;
            default: entry(random.nextInt(random.nextBoolean() ? 4 : 32)); break;
        }
    }

    private void state(int c, int kind) {
        switch (kind) {
            case 29: login(random.nextInt(6) > 0 ? 0 : random.nextInt(18) - 1); break;
            case 30: power(one(POWERS)); break;
            case 31: case 32: set(random.nextInt(18) - 1, random.nextInt(258) - 1); break;
            case 33: buffer(random.nextInt(4) - 1); break;
            case 34: case 35: has(c, random.nextInt(13) - 1); break;
            case 36: told(random.nextInt(6) - 1); break;
            case 37: disk(random.nextInt(random.nextBoolean() ? 512 : 4098) - 1); break;
            case 38: spoil(random.nextInt(random.nextBoolean() ? 512 : 4098) - 1, random.nextInt(258) - 1); break;
            default: spoil(16 * random.nextInt(8) + random.nextInt(16), random.nextInt(4)); break;
        }
    }

    private void openOrMake(int c) {
        if (random.nextInt(5) > 0) {
            same("open(" + c + ")", () -> x.open(c), () -> m.open(c));
        } else {
            same("make(" + c + ")", () -> x.make(c), () -> m.make(c));
        }
    }

    private void entry(int e) {
        String name = NAMES[random.nextInt(NAMES.length)];
        spoil(16 * e, random.nextInt(5) == 0 ? random.nextInt(256) : 0);
        for (int i = 1; i <= 6; i++) {
            spoil(16 * e + i, name.charAt(i - 1) + (random.nextInt(12) == 0 ? 128 : 0));
        }
        spoil(16 * e + 7, random.nextInt(8) == 0 ? random.nextInt(256) : one(STRETCHES));
        spoil(16 * e + 8, random.nextInt(8) == 0 ? random.nextInt(256) : random.nextInt(29));
        for (int i = 9; i < 16; i++) {
            spoil(16 * e + i, random.nextInt(3) == 0 ? 0 : random.nextInt(random.nextBoolean() ? 16 : 256));
        }
    }

    private long name() {
        return random.nextInt(20) == 0 ? random.nextLong() : Disks.name(NAMES[random.nextInt(NAMES.length)]);
    }

    private int one(int[] of) {
        return of[random.nextInt(of.length)];
    }

    /** Ends a run: all that can be seen but the disk, and of that a part, mostly of the directory. */
    private void look(int seed) {
        for (int c = 0; c < 4; c++) {
            for (int what = 0; what <= 10; what++) {
                has(c, what);
            }
        }
        for (int what = 0; what <= 3; what++) {
            told(what);
        }
        buffer(0);
        buffer(1);
        int from = PART * random.nextInt(seed % 3 == 0 ? 4096 / PART : 512 / PART);
        for (int i = from; i < from + PART; i++) {
            disk(i);
        }
    }

    private void login(int user) {
        same("login(" + user + ")", () -> x.login(user), () -> m.login(user));
    }

    private void power(int n) {
        same("power(" + n + ")", () -> {
            x.power(n);
            return 0;
        }, () -> m.power(n));
    }

    private void name(int c, long name) {
        same("name(" + c + ", " + name + ")", () -> {
            x.name(c, name);
            return 0;
        }, () -> m.name(c, name));
    }

    private void rename(int c, int d) {
        same("rename(" + c + ", " + d + ")", () -> x.rename(c, d), () -> m.rename(c, d));
    }

    private void guard(int c, boolean guards) {
        same("guard(" + c + ", " + guards + ")", () -> x.guard(c, guards), () -> m.guard(c, guards));
    }

    private void search(int c, int from) {
        same("search(" + c + ", " + from + ")", () -> x.search(c, from), () -> m.search(c, from));
    }

    private void at(int c, int r, boolean puts) {
        same("at(" + c + ", " + r + ", " + puts + ")", () -> x.at(c, r, puts), () -> m.at(c, r, puts));
    }

    private void has(int c, int what) {
        same("has(" + c + ", " + what + ")", () -> x.has(c, what), () -> m.has(c, what));
    }

    private void set(int i, int v) {
        same("set(" + i + ", " + v + ")", () -> x.set(i, v), () -> m.set(i, v));
    }

    private void buffer(int half) {
        same("buffer(" + half + ")", () -> x.buffer(half), () -> m.buffer(half));
    }

    private void disk(int i) {
        same("disk(" + i + ")", () -> x.disk(i), () -> m.disk(i));
    }

    private void spoil(int i, int v) {
        same("spoil(" + i + ", " + v + ")", () -> {
            x.spoil(i, v);
            return 0;
        }, () -> m.spoil(i, v));
    }

    private void told(int what) {
        same("told(" + what + ")", () -> x.told(what), () -> m.told(what));
    }

    private void same(String call, LongSupplier program, LongSupplier model) {
        calls++;
        checks.due(run + calls + ": " + call, answer(program), answer(model));
    }

    private static long answer(LongSupplier call) {
        try {
            return call.getAsLong();
        } catch (RuntimeException e) {
            return e.getClass() == IndexOutOfBoundsException.class ? THREW_INDEX
                : e.getClass() == IllegalArgumentException.class ? THREW_ARGUMENT : THREW_OTHER;
        }
    }
}
