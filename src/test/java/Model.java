import java.util.Arrays;
import java.util.TreeSet;
import java.util.function.IntPredicate;
import java.util.function.IntSupplier;
import java.util.stream.IntStream;

/**
 * The document told a second time, as near to its words as Java allows and in code of its own, so that a slip in the
 * program isn't likely to be here, too. A step that ends a call early throws the answer.
 */
final class Model {
    private static final class Answer extends RuntimeException {
        private static final long serialVersionUID = 1L;
        private final int number;

        private Answer(int number) {
            super(null, null, false, false);
            this.number = number;
        }
    }

    private static final class Held {
        private String wanted = "      ";
        private boolean open;
        private boolean readOnly;
        private int stretch;
        private int count;
        private int place;
        private int[] told = new int[7];
    }

    private static final int END = -1, LASTS = Integer.MAX_VALUE;

    private final int[][] records = new int[256][16];
    private final TreeSet<Integer> untaken = new TreeSet<>();
    private final Held[] controls = {new Held(), new Held(), new Held(), new Held()};
    private int[] buffer = new int[16];
    private int user;
    private int toCome = LASTS;
    private int done;

    Model() {
        for (int e = 0; e < 32; e++) {
            records[e][0] = 229;
        }
        IntStream.range(8, 64).forEach(untaken::add);
    }

    int login(int newUser) {
        argument(newUser, 15);
        toCome = LASTS;
        done = 0;
        user = newUser;
        IntStream.range(8, 64).forEach(untaken::add);
        entries(e -> !isFree(e)).flatMap(this::numbers).forEach(untaken::remove);
        for (Held c : controls) {
            c.open = false;
        }
        return untaken.size();
    }

    int power(int n) {
        argument(n, 1000);
        toCome = n;
        done = 0;
        return 0;
    }

    int name(int control, long name) {
        Held c = control(control);
        StringBuilder six = new StringBuilder();
        long rest = name;
        for (int i = 0; i < 6; i++) {
            six.append((char) Math.floorMod(rest, 128));
            rest = Math.floorDiv(rest, 256);
        }
        c.wanted = six.toString();
        c.open = false;
        return 0;
    }

    int open(int control) {
        Held c = control(control);
        c.open = false;
        return answer(() -> {
            int e = first(entries(e2 -> fits(e2, c) && records[e2][7] == 0), RecordSystem.NONE);
            c.open = true;
            c.readOnly = isReadOnly(e);
            become(c, e);
            return e;
        });
    }

    int make(int control) {
        Held c = control(control);
        return answer(() -> {
            int e = first(entries(this::isFree), RecordSystem.FULL);
            c.open = true;
            c.readOnly = false;
            makeEntry(c, e, 0);
            return e;
        });
    }

    int close(int control) {
        Held c = control(control);
        return answer(() -> {
            mustBeOpen(c);
            c.open = false;
            return keep(c);
        });
    }

    int erase(int control) {
        Held c = control(control);
        return answer(() -> {
            int[] fitting = notReadOnly(c);
            for (int e : fitting) {
                numbers(e).filter(b -> b > 7).forEach(untaken::add);
                write(e, 0, 229);
            }
            return fitting.length;
        });
    }

    int rename(int control, int other) {
        Held c = control(control);
        Held d = control(other);
        return answer(() -> {
            int[] fitting = notReadOnly(c);
            for (int e : fitting) {
                int[] row = records[e].clone();
                for (int i = 1; i <= 6; i++) {
                    row[i] = d.wanted.charAt(i - 1) + (i == 5 ? row[i] / 128 * 128 : 0);
                }
                write(e, row);
            }
            return fitting.length;
        });
    }

    int guard(int control, boolean guards) {
        Held c = control(control);
        return answer(() -> {
            int[] fitting = fitting(c);
            for (int e : fitting) {
                write(e, 5, records[e][5] % 128 + (guards ? 128 : 0));
            }
            return fitting.length;
        });
    }

    int search(int control, int from) {
        Held c = control(control);
        argument(from, 31);
        return answer(() -> first(entries(e -> e >= from && fits(e, c)), RecordSystem.NONE));
    }

    int read(int control) {
        return next(control(control), false);
    }

    int write(int control) {
        return next(control(control), true);
    }

    int at(int control, int record, boolean puts) {
        Held c = control(control);
        argument(record, 100000);
        return answer(() -> {
            mustBeOpen(c);
            goTo(c, record / 28, puts);
            move(c, record % 28, puts);
            c.place = record % 28;
            return 0;
        });
    }

    int size(int control) {
        Held c = control(control);
        return entries(e -> fits(e, c)).map(e -> 28 * records[e][7] + records[e][8]).max().orElse(0);
    }

    int has(int control, int what) {
        Held c = control(control);
        argument(what, 10);
        int[] all = {1, c.stretch, c.count, c.place};
        return !c.open ? 0 : what < 4 ? all[what] : c.told[what - 4];
    }

    int set(int i, int v) {
        index(i, 15);
        argument(v, 255);
        int was = buffer[i];
        buffer[i] = v;
        return was;
    }

    long buffer(int half) {
        index(half, 1);
        long sum = 0;
        long worth = 1;
        for (int i = 8 * half; i < 8 * half + 8; i++, worth *= 256) {
            sum += worth * buffer[i];
        }
        return sum;
    }

    int disk(int i) {
        index(i, 4095);
        return records[i / 16][i % 16];
    }

    int spoil(int i, int v) {
        index(i, 4095);
        argument(v, 255);
        records[i / 16][i % 16] = v;
        return 0;
    }

    int told(int what) {
        argument(what, 3);
        int[] all = {untaken.size(), toldTwice(), (int) entries(this::isFree).count(), done};
        return all[what];
    }

    private int toldTwice() {
        int[] places = entries(e -> !isFree(e)).flatMap(this::numbers).toArray();
        return (int) IntStream.range(8, 64).filter(b -> IntStream.of(places).filter(p -> p == b).count() > 1).count();
    }

    private void goTo(Held c, int s, boolean puts) {
        if (s > 15) {
            throw new Answer(RecordSystem.FULL);
        }
        if (s == c.stretch) {
            return;
        }
        keep(c);
        IntPredicate isNext = e -> fits(e, c) && records[e][7] == s;
        if (entries(isNext).findFirst().isPresent()) {
            become(c, first(entries(isNext), END));
        } else if (puts) {
            makeEntry(c, first(entries(this::isFree), RecordSystem.FULL), s);
        } else {
            throw new Answer(END);
        }
    }

    private int next(Held c, boolean puts) {
        return answer(() -> {
            mustBeOpen(c);
            if (c.place == 28) {
                goTo(c, c.stretch + 1, puts);
            }
            move(c, c.place, puts);
            c.place = c.place + 1;
            return 0;
        });
    }

    private void move(Held c, int p, boolean puts) {
        if (puts) {
            put(c, p);
        } else if (p >= c.count || c.told[p / 4] == 0) {
            throw new Answer(END);
        } else {
            buffer = records[recordOf(c, p)].clone();
        }
    }

    private void put(Held c, int p) {
        if (c.readOnly) {
            throw new Answer(RecordSystem.READ_ONLY);
        }
        if (c.told[p / 4] == 0) {
            c.told[p / 4] = first(untaken.stream().mapToInt(b -> b), RecordSystem.DISK_FULL);
            untaken.remove(c.told[p / 4]);
        }
        write(recordOf(c, p), buffer.clone());
        if (c.count < p + 1) {
            c.count = p + 1;
        }
    }

    private static int recordOf(Held c, int p) {
        return 4 * (c.told[p / 4] % 64) + p % 4;
    }

    private void become(Held c, int e) {
        c.stretch = records[e][7];
        c.count = records[e][8];
        c.told = Arrays.copyOfRange(records[e], 9, 16);
        c.place = 0;
    }

    private void makeEntry(Held c, int e, int s) {
        c.stretch = s;
        c.count = 0;
        c.told = new int[7];
        c.place = 0;
        int[] row = new int[16];
        row[0] = user;
        for (int i = 0; i < 6; i++) {
            row[1 + i] = c.wanted.charAt(i);
        }
        row[7] = s;
        write(e, row);
    }

    private int keep(Held c) {
        int e = first(entries(e2 -> fits(e2, c) && records[e2][7] == c.stretch), RecordSystem.NONE);
        int[] row = records[e].clone();
        row[8] = c.count;
        System.arraycopy(c.told, 0, row, 9, 7);
        write(e, row);
        return e;
    }

    private void write(int entry, int i, int v) {
        int[] row = records[entry].clone();
        row[i] = v;
        write(entry, row);
    }

    private void write(int record, int[] row) {
        if (toCome == 0) {
            throw new Answer(RecordSystem.POWERLESS);
        }
        toCome -= toCome == LASTS ? 0 : 1;
        done++;
        records[record] = row;
    }

    private static void mustBeOpen(Held c) {
        if (!c.open) {
            throw new Answer(RecordSystem.NONE);
        }
    }

    private int[] notReadOnly(Held c) {
        int[] fitting = fitting(c);
        if (IntStream.of(fitting).anyMatch(this::isReadOnly)) {
            throw new Answer(RecordSystem.READ_ONLY);
        }
        return fitting;
    }

    private int[] fitting(Held c) {
        int[] fitting = entries(e -> fits(e, c)).toArray();
        if (fitting.length == 0) {
            throw new Answer(RecordSystem.NONE);
        }
        return fitting;
    }

    private boolean fits(int e, Held c) {
        return records[e][0] == user && IntStream.range(0, 6)
            .allMatch(i -> c.wanted.charAt(i) == 63 || c.wanted.charAt(i) == records[e][1 + i] % 128);
    }

    private boolean isFree(int e) {
        return records[e][0] > 15;
    }

    private boolean isReadOnly(int e) {
        return records[e][5] >= 128;
    }

    private IntStream numbers(int e) {
        return IntStream.range(9, 16).map(i -> records[e][i] % 64);
    }

    private IntStream entries(IntPredicate which) {
        return IntStream.range(0, 32).filter(which);
    }

    private static int first(IntStream from, int otherwise) {
        return from.findFirst().orElseThrow(() -> new Answer(otherwise));
    }

    private static int answer(IntSupplier call) {
        try {
            return call.getAsInt();
        } catch (Answer early) {
            return early.number;
        }
    }

    private Held control(int control) {
        index(control, 3);
        return controls[control];
    }

    private static void index(int i, int last) {
        if (i < 0 || i > last) {
            throw new IndexOutOfBoundsException();
        }
    }

    private static void argument(int v, int greatest) {
        if (v < 0 || v > greatest) {
            throw new IllegalArgumentException();
        }
    }
}
