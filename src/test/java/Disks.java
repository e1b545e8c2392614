import java.util.function.Supplier;

/** Ways to set up a disk and to look at all that a caller can see of an object. */
final class Disks {
    static final int FREE = 229;
    static final String BLANK = "      ";

    private static final int PART = 256;

    private Disks() {
    }

    /** The long that stands for a name of six characters, the first one lowest. */
    static long name(String six) {
        long name = 0;
        for (int i = 5; i >= 0; i--) {
            name = name << 8 | six.charAt(i) & 0xff;
        }
        return name;
    }

    /** An object whose controls 0 .. 3 want these names. */
    static RecordSystem wanting(String... names) {
        RecordSystem x = new RecordSystem();
        for (int i = 0; i < names.length; i++) {
            x.name(i, name(names[i]));
        }
        return x;
    }

    /** Puts an entry on the disk without a write. */
    static void entry(RecordSystem x, int entry, int user, String name, int stretch, int count, int... blocks) {
        x.spoil(entry * 16, user);
        for (int i = 0; i < 6; i++) {
            x.spoil(entry * 16 + 1 + i, name.charAt(i));
        }
        x.spoil(entry * 16 + 7, stretch);
        x.spoil(entry * 16 + 8, count);
        for (int k = 0; k < 7; k++) {
            x.spoil(entry * 16 + 9 + k, k < blocks.length ? blocks[k] : 0);
        }
    }

    static void readOnly(RecordSystem x, int entry) {
        x.spoil(entry * 16 + 5, x.disk(entry * 16 + 5) | 128);
    }

    /** All bytes of the buffer become v. */
    static void fill(RecordSystem x, int v) {
        for (int i = 0; i < 16; i++) {
            x.set(i, v);
        }
    }

    /** The bytes of an entry, for one comparison instead of sixteen. */
    static String bytes(RecordSystem x, int record) {
        StringBuilder text = new StringBuilder();
        for (int i = 0; i < 16; i++) {
            text.append(i == 0 ? "" : " ").append(x.disk(record * 16 + i));
        }
        return text.toString();
    }

    /**
     * All of the disk, the buffer, the controls, what is told, and what can only be found out by going on. No object
     * may be asked more than 512 times, so the run that leads there is made anew for each part.
     */
    static String everything(Supplier<RecordSystem> run) {
        StringBuilder text = new StringBuilder();
        for (int from = 0; from < 4096; from += PART) {
            RecordSystem x = run.get();
            for (int i = from; i < from + PART; i++) {
                text.append(x.disk(i)).append(' ');
            }
        }
        return text + seen(run.get()) + goingOn(run.get());
    }

    private static String seen(RecordSystem x) {
        StringBuilder text = new StringBuilder();
        text.append("buffer ").append(x.buffer(0)).append(' ').append(x.buffer(1));
        for (int c = 0; c < 4; c++) {
            text.append(" control ").append(c).append(' ').append(control(x, c));
            text.append(" fits ").append(x.search(c, 0)).append(" size ").append(x.size(c));
        }
        text.append(" told");
        for (int what = 0; what < 4; what++) {
            text.append(' ').append(x.told(what));
        }
        return text.toString();
    }

    /** The power that is left, the user, the wanted names, which blocks are taken and which controls may write. */
    private static String goingOn(RecordSystem x) {
        StringBuilder text = new StringBuilder(" then");
        for (int c = 0; c < 4; c++) {
            text.append(" at ").append(x.at(c, 4 * c, true)).append(" has ").append(control(x, c));
        }
        for (int c = 0; c < 4; c++) {
            int entry = x.make(c);
            text.append(" made ").append(entry).append(": ").append(entry < 0 ? "" : bytes(x, entry));
        }
        for (int k = 0; k < 7; k++) {
            text.append(" write ").append(x.at(3, 4 * k, true)).append(" into ").append(x.has(3, 4 + k));
        }
        int last = x.make(3);
        for (int i = 0; i < 32 && last >= 0; i++) {
            last = x.make(3);
        }
        return text.append(" at last ").append(last).append(" with ").append(x.told(3)).toString();
    }

    /** What a control has: open, stretch, count, place and seven blocks. */
    static String control(RecordSystem x, int control) {
        StringBuilder text = new StringBuilder();
        for (int what = 0; what <= 10; what++) {
            text.append(what == 0 ? "" : " ").append(x.has(control, what));
        }
        return text.toString();
    }
}
