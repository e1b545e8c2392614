// Files of records on a disk with a directory, held open by controls, written as long as power lasts.
public final class RecordSystem {
    public static final int NONE = -1, FULL = -2, READ_ONLY = -3, DISK_FULL = -4, POWERLESS = -9;

    private static final int DONE = 0;

    private static final int USERS = 16;
    private static final int CONTROLS = 4;
    private static final int ENTRIES = 32;
    private static final int STRETCHES = 16;

    private static final int BLOCKS = 64;
    private static final int DIRECTORY_BLOCKS = 8;
    private static final int BLOCK_RECORDS = 4;
    private static final int RECORD_BYTES = 16;
    private static final int DISK_BYTES = BLOCKS * BLOCK_RECORDS * RECORD_BYTES;
    private static final int STRETCH_BLOCKS = 7;
    private static final int STRETCH_RECORDS = STRETCH_BLOCKS * BLOCK_RECORDS;

    private static final int GREATEST_BYTE = 255;
    private static final int GREATEST_RECORD = 100000;
    private static final int GREATEST_POWER = 1000;
    private static final int GREATEST_HAS = 10;

    private static final int USER_AT = 0;
    private static final int NAME_AT = 1;
    private static final int GUARD_AT = 5;
    private static final int STRETCH_AT = 7;
    private static final int COUNT_AT = 8;
    private static final int BLOCKS_AT = 9;

    private static final int FREE_USER = 229;
    private static final int NAME_BYTES = 6;
    private static final int NAME_BITS = 127;
    private static final int GUARD_BIT = 128;
    private static final int BLANK = 32;
    private static final int ANY = 63;

    private final Disk store;
    private final Directory directory;
    private final BlockMap map;
    private final Control[] controls;
    private final int[] held;

    public RecordSystem() {
        store = new Disk();
        directory = new Directory(store);
        map = new BlockMap();
        controls = new Control[CONTROLS];
        for (int i = 0; i < CONTROLS; i++) {
            controls[i] = new Control();
        }
        held = new int[RECORD_BYTES];
    }

    public int login(int user) throws IllegalArgumentException {
        checkArgument(user, USERS - 1);
        store.lastForEver();
        directory.user = user;
        for (int i = 0; i < CONTROLS; i++) {
            controls[i].isOpen = false;
        }
        takeToldBlocks();
        return map.untaken();
    }

    public void power(int n) throws IllegalArgumentException {
        checkArgument(n, GREATEST_POWER);
        store.lastFor(n);
    }

    public void name(int control, long name) throws IndexOutOfBoundsException {
        Control c = controlAt(control);
        for (int i = 0; i < NAME_BYTES; i++) {
            c.wanted[i] = (int) (name >> (8 * i)) & NAME_BITS;
        }
        c.isOpen = false;
    }

    public int open(int control) throws IndexOutOfBoundsException {
        Control c = controlAt(control);
        int entry = directory.firstOfStretch(c, 0);
        c.isOpen = entry != NONE;
        if (c.isOpen) {
            directory.fetchStretch(entry, c);
            c.isReadOnly = directory.isReadOnly(entry);
        }
        return entry;
    }

    public int make(int control) throws IndexOutOfBoundsException {
        Control c = controlAt(control);
        int entry = directory.firstFree();
        if (entry == NONE) {
            return FULL;
        }
        c.isOpen = true;
        c.isReadOnly = false;
        return makeStretch(c, entry, 0) ? entry : POWERLESS;
    }

    public int close(int control) throws IndexOutOfBoundsException {
        Control c = controlAt(control);
        if (!c.isOpen) {
            return NONE;
        }
        c.isOpen = false;
        return keepStretch(c);
    }

    public int erase(int control) throws IndexOutOfBoundsException {
        Control c = controlAt(control);
        if (directory.hasReadOnly(c)) {
            return READ_ONLY;
        }
        int erased = 0;
        for (int entry = 0; entry < ENTRIES; entry++) {
            if (directory.fits(entry, c)) {
                giveBackBlocks(entry);
                if (!directory.freeEntry(entry)) {
                    return POWERLESS;
                }
                erased++;
            }
        }
        return howMany(erased);
    }

    public int rename(int control, int other) throws IndexOutOfBoundsException {
        Control c = controlAt(control);
        Control d = controlAt(other);
        if (directory.hasReadOnly(c)) {
            return READ_ONLY;
        }
        int renamed = 0;
        for (int entry = 0; entry < ENTRIES; entry++) {
            if (directory.fits(entry, c)) {
                if (!directory.nameEntry(entry, d)) {
                    return POWERLESS;
                }
                renamed++;
            }
        }
        return howMany(renamed);
    }

    public int guard(int control, boolean guards) throws IndexOutOfBoundsException {
        Control c = controlAt(control);
        int guarded = 0;
        for (int entry = 0; entry < ENTRIES; entry++) {
            if (directory.fits(entry, c)) {
                if (!directory.guardEntry(entry, guards)) {
                    return POWERLESS;
                }
                guarded++;
            }
        }
        return howMany(guarded);
    }

    public int search(int control, int from) throws IndexOutOfBoundsException, IllegalArgumentException {
        Control c = controlAt(control);
        checkArgument(from, ENTRIES - 1);
        return directory.firstFrom(c, from);
    }

    public int read(int control) throws IndexOutOfBoundsException {
        return moveNext(controlAt(control), false);
    }

    public int write(int control) throws IndexOutOfBoundsException {
        return moveNext(controlAt(control), true);
    }

    public int at(int control, int record, boolean puts) throws IndexOutOfBoundsException, IllegalArgumentException {
        Control c = controlAt(control);
        checkArgument(record, GREATEST_RECORD);
        if (!c.isOpen) {
            return NONE;
        }
        int gone = goTo(c, record / STRETCH_RECORDS, puts);
        if (gone != DONE) {
            return gone;
        }
        int place = record % STRETCH_RECORDS;
        int moved = moveRecord(c, place, puts);
        if (moved == DONE) {
            c.place = place;
        }
        return moved;
    }

    public int size(int control) throws IndexOutOfBoundsException {
        return directory.greatestEnd(controlAt(control));
    }

    public int has(int control, int what) throws IndexOutOfBoundsException, IllegalArgumentException {
        Control c = controlAt(control);
        checkArgument(what, GREATEST_HAS);
        if (!c.isOpen) {
            return 0;
        }
        switch (what) {
            case 0:
                return 1;
            case 1:
                return c.stretch;
            case 2:
                return c.count;
            case 3:
                return c.place;
            default:
                return c.blocks[what - 4];
        }
    }

    public int set(int i, int v) throws IndexOutOfBoundsException, IllegalArgumentException {
        checkIndex(i, RECORD_BYTES);
        checkArgument(v, GREATEST_BYTE);
        int old = held[i];
        held[i] = v;
        return old;
    }

    public long buffer(int half) throws IndexOutOfBoundsException {
        checkIndex(half, 2);
        long eight = 0;
        for (int i = 7; i >= 0; i--) {
            eight = eight << 8 | held[8 * half + i];
        }
        return eight;
    }

    public int disk(int i) throws IndexOutOfBoundsException {
        checkIndex(i, DISK_BYTES);
        return store.bytes[i];
    }

    public void spoil(int i, int v) throws IndexOutOfBoundsException, IllegalArgumentException {
        checkIndex(i, DISK_BYTES);
        checkArgument(v, GREATEST_BYTE);
        store.bytes[i] = v;
    }

    public int told(int what) throws IllegalArgumentException {
        checkArgument(what, 3);
        switch (what) {
            case 0:
                return map.untaken();
            case 1:
                return directory.blocksToldTwice();
            case 2:
                return directory.freeEntries();
            default:
                return store.writesDone;
        }
    }

    private Control controlAt(int control) {
        checkIndex(control, CONTROLS);
        return controls[control];
    }

    private static void checkIndex(int index, int length) {
        if (index < 0 || index >= length) {
            throw new IndexOutOfBoundsException();
        }
    }

    private static void checkArgument(int value, int greatest) {
        if (value < 0 || value > greatest) {
            throw new IllegalArgumentException();
        }
    }

    private static int howMany(int found) {
        return found == 0 ? NONE : found;
    }

    private void takeToldBlocks() {
        map.clear();
        for (int entry = 0; entry < ENTRIES; entry++) {
            if (!directory.isFree(entry)) {
                takeBlocks(entry);
            }
        }
    }

    private void takeBlocks(int entry) {
        for (int k = 0; k < STRETCH_BLOCKS; k++) {
            map.take(directory.blockNumber(entry, k));
        }
    }

    private void giveBackBlocks(int entry) {
        for (int k = 0; k < STRETCH_BLOCKS; k++) {
            map.giveBack(directory.blockNumber(entry, k));
        }
    }

    // The control is changed before the write, so that it stays so when power is gone.
    private boolean makeStretch(Control c, int entry, int stretch) {
        c.beginStretch(stretch);
        return directory.makeEntry(entry, c);
    }

    private int keepStretch(Control c) {
        int entry = directory.firstOfStretch(c, c.stretch);
        if (entry == NONE) {
            return NONE;
        }
        return directory.keepStretch(entry, c) ? entry : POWERLESS;
    }

    private int goTo(Control c, int stretch, boolean puts) {
        if (stretch >= STRETCHES) {
            return FULL;
        }
        if (stretch == c.stretch) {
            return DONE;
        }
        int kept = keepStretch(c);
        if (kept < 0) {
            return kept;
        }
        int entry = directory.firstOfStretch(c, stretch);
        if (entry != NONE) {
            directory.fetchStretch(entry, c);
            return DONE;
        }
        return puts ? goToNew(c, stretch) : NONE;
    }

    private int goToNew(Control c, int stretch) {
        int entry = directory.firstFree();
        if (entry == NONE) {
            return FULL;
        }
        return makeStretch(c, entry, stretch) ? DONE : POWERLESS;
    }

    private int moveNext(Control c, boolean puts) {
        if (!c.isOpen) {
            return NONE;
        }
        if (c.place >= STRETCH_RECORDS) {
            int gone = goTo(c, c.stretch + 1, puts);
            if (gone != DONE) {
                return gone;
            }
        }
        int moved = moveRecord(c, c.place, puts);
        if (moved == DONE) {
            c.place++;
        }
        return moved;
    }

    private int moveRecord(Control c, int place, boolean puts) {
        return puts ? putRecord(c, place) : getRecord(c, place);
    }

    private int putRecord(Control c, int place) {
        if (c.isReadOnly) {
            return READ_ONLY;
        }
        int k = place / BLOCK_RECORDS;
        if (c.blocks[k] == 0) {
            int given = map.giveLeast();
            if (given == NONE) {
                return DISK_FULL;
            }
            c.blocks[k] = given;
        }
        if (!store.putRow(c.recordAt(place), held)) {
            return POWERLESS;
        }
        c.count = Math.max(c.count, place + 1);
        return DONE;
    }

    private int getRecord(Control c, int place) {
        if (place >= c.count || c.blocks[place / BLOCK_RECORDS] == 0) {
            return NONE;
        }
        store.getRow(c.recordAt(place), held);
        return DONE;
    }

    // The bytes, and the power that every write of a record needs.
    private static final class Disk {
        private final int[] bytes = new int[DISK_BYTES];
        private boolean lastsForEver = true;
        private int writesLeft;
        private int writesDone;

        private void lastForEver() {
            lastsForEver = true;
            writesDone = 0;
        }

        private void lastFor(int writes) {
            lastsForEver = false;
            writesLeft = writes;
            writesDone = 0;
        }

        private void getRow(int record, int[] row) {
            for (int i = 0; i < RECORD_BYTES; i++) {
                row[i] = bytes[record * RECORD_BYTES + i];
            }
        }

        // Answers whether power was there for it.
        private boolean putRow(int record, int[] row) {
            if (!lastsForEver) {
                if (writesLeft == 0) {
                    return false;
                }
                writesLeft--;
            }
            for (int i = 0; i < RECORD_BYTES; i++) {
                bytes[record * RECORD_BYTES + i] = row[i];
            }
            writesDone++;
            return true;
        }
    }

    // Which blocks are taken; it goes its own way between logins, whatever becomes of the entries.
    private static final class BlockMap {
        private final boolean[] taken = new boolean[BLOCKS];

        private BlockMap() {
            for (int b = 0; b < DIRECTORY_BLOCKS; b++) {
                taken[b] = true;
            }
        }

        private void clear() {
            for (int b = DIRECTORY_BLOCKS; b < BLOCKS; b++) {
                taken[b] = false;
            }
        }

        private void take(int number) {
            taken[number % BLOCKS] = true;
        }

        private void giveBack(int number) {
            int b = number % BLOCKS;
            taken[b] = b < DIRECTORY_BLOCKS;
        }

        private int giveLeast() {
            for (int b = DIRECTORY_BLOCKS; b < BLOCKS; b++) {
                if (!taken[b]) {
                    taken[b] = true;
                    return b;
                }
            }
            return NONE;
        }

        private int untaken() {
            int n = 0;
            for (int b = 0; b < BLOCKS; b++) {
                if (!taken[b]) {
                    n++;
                }
            }
            return n;
        }
    }

    private static final class Control {
        private final int[] wanted = new int[NAME_BYTES];
        private final int[] blocks = new int[STRETCH_BLOCKS];
        private boolean isOpen;
        private boolean isReadOnly;
        private int stretch;
        private int count;
        private int place;

        private Control() {
            for (int i = 0; i < NAME_BYTES; i++) {
                wanted[i] = BLANK;
            }
        }

        private void beginStretch(int newStretch) {
            stretch = newStretch;
            count = 0;
            place = 0;
            for (int k = 0; k < STRETCH_BLOCKS; k++) {
                blocks[k] = 0;
            }
        }

        private int recordAt(int p) {
            return blocks[p / BLOCK_RECORDS] % BLOCKS * BLOCK_RECORDS + p % BLOCK_RECORDS;
        }
    }

    // The entries on the disk, as the user sees them; nothing of them is kept elsewhere, for they may be spoilt.
    private static final class Directory {
        private final Disk store;
        private final int[] draft = new int[RECORD_BYTES];
        private final int[] tellers = new int[BLOCKS];
        private int user;

        private Directory(Disk disk) {
            store = disk;
            for (int entry = 0; entry < ENTRIES; entry++) {
                disk.bytes[entry * RECORD_BYTES + USER_AT] = FREE_USER;
            }
        }

        private int byteAt(int entry, int i) {
            return store.bytes[entry * RECORD_BYTES + i];
        }

        private int blockNumber(int entry, int k) {
            return byteAt(entry, BLOCKS_AT + k);
        }

        private boolean isFree(int entry) {
            return byteAt(entry, USER_AT) >= USERS;
        }

        private boolean isReadOnly(int entry) {
            return (byteAt(entry, GUARD_AT) & GUARD_BIT) != 0;
        }

        private boolean fits(int entry, Control c) {
            if (byteAt(entry, USER_AT) != user) {
                return false;
            }
            for (int i = 0; i < NAME_BYTES; i++) {
                int letter = byteAt(entry, NAME_AT + i) & NAME_BITS;
                if (c.wanted[i] != ANY && c.wanted[i] != letter) {
                    return false;
                }
            }
            return true;
        }

        private int firstFrom(Control c, int from) {
            for (int entry = from; entry < ENTRIES; entry++) {
                if (fits(entry, c)) {
                    return entry;
                }
            }
            return NONE;
        }

        private int firstOfStretch(Control c, int stretch) {
            for (int entry = 0; entry < ENTRIES; entry++) {
                if (byteAt(entry, STRETCH_AT) == stretch && fits(entry, c)) {
                    return entry;
                }
            }
            return NONE;
        }

        private int firstFree() {
            for (int entry = 0; entry < ENTRIES; entry++) {
                if (isFree(entry)) {
                    return entry;
                }
            }
            return NONE;
        }

        private int freeEntries() {
            int n = 0;
            for (int entry = 0; entry < ENTRIES; entry++) {
                if (isFree(entry)) {
                    n++;
                }
            }
            return n;
        }

        private boolean hasReadOnly(Control c) {
            for (int entry = 0; entry < ENTRIES; entry++) {
                if (isReadOnly(entry) && fits(entry, c)) {
                    return true;
                }
            }
            return false;
        }

        private int greatestEnd(Control c) {
            int greatest = 0;
            for (int entry = 0; entry < ENTRIES; entry++) {
                if (fits(entry, c)) {
                    int end = STRETCH_RECORDS * byteAt(entry, STRETCH_AT) + byteAt(entry, COUNT_AT);
                    greatest = Math.max(greatest, end);
                }
            }
            return greatest;
        }

        private int blocksToldTwice() {
            countTellers();
            int n = 0;
            for (int b = DIRECTORY_BLOCKS; b < BLOCKS; b++) {
                if (tellers[b] > 1) {
                    n++;
                }
            }
            return n;
        }

        private void countTellers() {
            for (int b = 0; b < BLOCKS; b++) {
                tellers[b] = 0;
            }
            for (int entry = 0; entry < ENTRIES; entry++) {
                if (!isFree(entry)) {
                    countBlocks(entry);
                }
            }
        }

        private void countBlocks(int entry) {
            for (int k = 0; k < STRETCH_BLOCKS; k++) {
                tellers[blockNumber(entry, k) % BLOCKS]++;
            }
        }

        private void fetchStretch(int entry, Control c) {
            c.stretch = byteAt(entry, STRETCH_AT);
            c.count = byteAt(entry, COUNT_AT);
            c.place = 0;
            for (int k = 0; k < STRETCH_BLOCKS; k++) {
                c.blocks[k] = blockNumber(entry, k);
            }
        }

        private boolean makeEntry(int entry, Control c) {
            draft[USER_AT] = user;
            for (int i = 0; i < NAME_BYTES; i++) {
                draft[NAME_AT + i] = c.wanted[i];
            }
            draft[STRETCH_AT] = c.stretch;
            return putDraft(entry, c);
        }

        private boolean keepStretch(int entry, Control c) {
            store.getRow(entry, draft);
            return putDraft(entry, c);
        }

        private boolean putDraft(int entry, Control c) {
            draft[COUNT_AT] = c.count;
            for (int k = 0; k < STRETCH_BLOCKS; k++) {
                draft[BLOCKS_AT + k] = c.blocks[k];
            }
            return store.putRow(entry, draft);
        }

        private boolean freeEntry(int entry) {
            store.getRow(entry, draft);
            draft[USER_AT] = FREE_USER;
            return store.putRow(entry, draft);
        }

        private boolean nameEntry(int entry, Control c) {
            store.getRow(entry, draft);
            int guardBit = draft[GUARD_AT] & GUARD_BIT;
            for (int i = 0; i < NAME_BYTES; i++) {
                draft[NAME_AT + i] = c.wanted[i];
            }
            draft[GUARD_AT] |= guardBit;
            return store.putRow(entry, draft);
        }

        private boolean guardEntry(int entry, boolean guards) {
            store.getRow(entry, draft);
            draft[GUARD_AT] = draft[GUARD_AT] & NAME_BITS | (guards ? GUARD_BIT : 0);
            return store.putRow(entry, draft);
        }
    }
}
