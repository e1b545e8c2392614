/** The boundary cases that promises 1 to 4, 11 and 15 to 21 name, beside what they refuse. */
public final class PromiseEdgesTest {
    private static final String CLOSED = "0 0 0 0 0 0 0 0 0 0 0";

    private final Checks checks = new Checks();

    public static void main(String[] args) {
        new PromiseEdgesTest().run();
    }

    private void run() {
        newEntriesAreFree();
        newBytesAreNought();
        newNamesAreBlank();
        loginTells();
        loginCloses();
        loginChangesTheUser();
        nameSixBytes();
        nameCloses();
        searchFrom();
        searchOfAnyStretch();
        sizeGreatest();
        sizeNought();
        hasOfAnOpenControl();
        hasWhenNotOpen();
        setFirstAndLast();
        bufferHalves();
        diskAndSpoilFirstAndLast();
        spoilWhateverPower();
        toldUntaken();
        toldMoreThanOnce();
        toldFree();
        checks.finish();
    }

    private void newEntriesAreFree() {
        checks.sentence("Promise 1: All entries are free");
        RecordSystem x = new RecordSystem();
        for (int entry = 0; entry < 32; entry++) {
            checks.due("byte 0 of entry " + entry, x.disk(16 * entry), 229);
        }
        checks.due("told(2)", x.told(2), 32);
        checks.due("make(0)", x.make(0), 0);
    }

    private void newBytesAreNought() {
        checks.sentence("Promise 1: all other bytes of the disk 0");
        for (int from = 0; from < 4096; from += 512) {
            RecordSystem x = new RecordSystem();
            int sum = 0;
            for (int i = from; i < from + 512; i++) {
                sum += x.disk(i);
            }
            checks.due("sum of the bytes from " + from, sum, from == 0 ? 32 * 229 : 0);
        }
        RecordSystem y = new RecordSystem();
        checks.due("disk(4095)", y.disk(4095), 0);
        checks.due("disk(512)", y.disk(512), 0);
    }

    private void newNamesAreBlank() {
        checks.sentence("Promise 1: wanted names are bytes 32");
        RecordSystem x = new RecordSystem();
        for (int c = 0; c < 4; c++) {
            x.make(c);
            checks.same("entry of control " + c, Disks.bytes(x, c), "0 32 32 32 32 32 32 0 0 0 0 0 0 0 0 0");
        }
    }

    private void loginTells() {
        checks.sentence("Promise 2: what is taken is told by the entries. Answers how many blocks aren't taken.");
        RecordSystem x = new RecordSystem();
        checks.due("login(0), nothing told", x.login(0), 56);
        for (int entry = 0; entry < 8; entry++) {
            for (int k = 0; k < 7; k++) {
                x.spoil(16 * entry + 9 + k, 8 + 7 * entry + k);
            }
        }
        checks.due("login(0), told by free ones alone", x.login(0), 56);
        for (int entry = 0; entry < 8; entry++) {
            x.spoil(16 * entry, 15);
            checks.due("login(0), told by " + (entry + 1), x.login(0), 56 - 7 * (entry + 1));
        }
        checks.due("told(0)", x.told(0), 0);
        x.spoil(15, 7);
        checks.due("login(15), 14 told no more", x.login(15), 1);
        x.spoil(15, 255);
        checks.due("login(15), 63 told twice", x.login(15), 1);
        x.make(0);
        x.write(0);
        checks.due("has(0, 4)", x.has(0, 4), 14);
        checks.due("login(15), the block given not told", x.login(15), 1);
    }

    private void loginCloses() {
        checks.sentence("Promise 2: controls aren't open");
        RecordSystem x = new RecordSystem();
        for (int c = 0; c < 4; c++) {
            x.make(c);
            x.write(c);
        }
        checks.due("login(0), with four open that were never closed", x.login(0), 56);
        for (int c = 0; c < 4; c++) {
            checks.same("control " + c, Disks.control(x, c), CLOSED);
            checks.due("read(" + c + ")", x.read(c), -1);
            checks.due("count of its entry", x.disk(16 * c + 8), 0);
        }
    }

    private void loginChangesTheUser() {
        checks.sentence("Promise 2: the user becomes user");
        for (int user : new int[] {0, 1, 14, 15}) {
            RecordSystem x = new RecordSystem();
            x.login(7);
            x.login(user);
            x.make(0);
            checks.due("user of an entry made", x.disk(0), user);
            checks.due("search(0, 0)", x.search(0, 0), 0);
            x.login(7);
            checks.due("search(0, 0) as user 7", x.search(0, 0), -1);
        }
    }

    private void nameSixBytes() {
        checks.sentence("Promise 4: six bytes, the first one the lowest of name, with the lowest seven bits of each");
        long[] names = {0L, 1L, 127L, 128L, 255L, 256L, 0x7f00_0000_0000L, 0xff00_0000_0000L, 0x1_0000_0000_0000L,
            Long.MAX_VALUE, Long.MIN_VALUE, -1L, 0x8182_8384_8586_8788L};
        String[] bytes = {"0 0 0 0 0 0", "1 0 0 0 0 0", "127 0 0 0 0 0", "0 0 0 0 0 0", "127 0 0 0 0 0", "0 1 0 0 0 0",
            "0 0 0 0 0 127", "0 0 0 0 0 127", "0 0 0 0 0 0", "127 127 127 127 127 127", "0 0 0 0 0 0",
            "127 127 127 127 127 127", "8 7 6 5 4 3"};
        for (int i = 0; i < names.length; i++) {
            RecordSystem x = new RecordSystem();
            x.name(3, names[i]);
            x.make(3);
            checks.same("name(3, " + names[i] + ")", Disks.bytes(x, 0), "0 " + bytes[i] + " 0 0 0 0 0 0 0 0 0");
        }
    }

    private void nameCloses() {
        checks.sentence("Promise 4: it isn't open then");
        RecordSystem x = new RecordSystem();
        x.make(0);
        x.make(3);
        x.write(0);
        x.name(0, Disks.name(Disks.BLANK));
        checks.same("control 0", Disks.control(x, 0), CLOSED);
        checks.due("close(0)", x.close(0), -1);
        checks.due("count: nothing was closed", x.disk(8), 0);
        checks.due("has(3, 0)", x.has(3, 0), 1);
        x.name(0, Disks.name(Disks.BLANK));
        checks.same("control 0, not open before", Disks.control(x, 0), CLOSED);
    }

    private void searchFrom() {
        checks.sentence("Promise 11: The first entry from a number on that fits; NONE when there is none.");
        for (int entry : new int[] {0, 1, 15, 30, 31}) {
            RecordSystem x = new RecordSystem();
            Disks.entry(x, entry, 0, Disks.BLANK, 0, 0);
            for (int from = 0; from <= 31; from++) {
                String told = "entry " + entry + ", search(0, " + from + ")";
                checks.due(told, x.search(0, from), from <= entry ? entry : -1);
            }
        }
        RecordSystem y = new RecordSystem();
        Disks.entry(y, 0, 0, Disks.BLANK, 0, 0);
        Disks.entry(y, 31, 0, Disks.BLANK, 0, 0);
        checks.due("search(0, 0)", y.search(0, 0), 0);
        checks.due("search(0, 1)", y.search(0, 1), 31);
        checks.due("search(0, 31)", y.search(0, 31), 31);
        checks.due("search(0, 0) in an empty directory", new RecordSystem().search(0, 0), -1);
    }

    private void searchOfAnyStretch() {
        checks.sentence("Promise 11: of any stretch");
        for (int stretch : new int[] {0, 1, 15, 16, 255}) {
            RecordSystem x = new RecordSystem();
            Disks.entry(x, 3, 0, Disks.BLANK, stretch, 0);
            checks.due("search(0, 0), stretch " + stretch, x.search(0, 0), 3);
            checks.due("has(0, 0): a search opens nothing", x.has(0, 0), 0);
        }
    }

    private void sizeGreatest() {
        checks.sentence("Promise 15: The greatest number of a record behind the last one of an entry that fits"
            + " (28 times its stretch, and its count)");
        int[][] due = {{0, 1, 1}, {0, 28, 28}, {1, 0, 28}, {1, 1, 29}, {15, 28, 448}, {16, 0, 448}, {255, 255, 7395}};
        for (int[] row : due) {
            RecordSystem x = new RecordSystem();
            Disks.entry(x, 31, 0, Disks.BLANK, row[0], row[1]);
            checks.due("size(0), stretch " + row[0] + ", count " + row[1], x.size(0), row[2]);
            Disks.entry(x, 0, 0, Disks.BLANK, 0, 1);
            checks.due("size(0), a lesser one before it", x.size(0), row[2]);
            Disks.entry(x, 0, 1, Disks.BLANK, 255, 255);
            Disks.entry(x, 1, 0, "OTHER ", 255, 255);
            Disks.entry(x, 2, 229, Disks.BLANK, 255, 255);
            checks.due("size(0), others that don't fit", x.size(0), row[2]);
        }
        RecordSystem y = new RecordSystem();
        Disks.entry(y, 0, 0, Disks.BLANK, 1, 0);
        Disks.entry(y, 1, 0, Disks.BLANK, 0, 255);
        checks.due("size(0): the greatest end, not the greatest stretch", y.size(0), 255);
        Disks.entry(y, 0, 0, Disks.BLANK, 10, 0);
        checks.due("size(0): nor the greatest count", y.size(0), 280);
    }

    private void sizeNought() {
        checks.sentence("Promise 15: 0 when none does");
        RecordSystem x = new RecordSystem();
        checks.due("size(0) in an empty directory", x.size(0), 0);
        Disks.entry(x, 0, 0, Disks.BLANK, 0, 0);
        checks.due("size(0) of an empty file", x.size(0), 0);
        x.open(0);
        x.write(0);
        checks.due("size(0) before the close", x.size(0), 0);
        x.close(0);
        checks.due("size(0) behind the close", x.size(0), 1);
        x.erase(0);
        checks.due("size(0) behind an erase", x.size(0), 0);
    }

    private void hasOfAnOpenControl() {
        checks.sentence("Promise 16: Of a control: 1 if it is open (what = 0), its stretch (1), count (2), place (3),"
            + " the block at place k of its stretch (4 + k)");
        RecordSystem x = new RecordSystem();
        Disks.entry(x, 0, 0, Disks.BLANK, 0, 0);
        Disks.entry(x, 1, 0, Disks.BLANK, 15, 255, 21, 22, 23, 24, 25, 26, 255);
        x.open(3);
        checks.due("at(3, 447, false)", x.at(3, 447, false), 0);
        int[] due = {1, 15, 255, 27, 21, 22, 23, 24, 25, 26, 255};
        for (int what = 0; what <= 10; what++) {
            checks.due("has(3, " + what + ")", x.has(3, what), due[what]);
            checks.due("has(2, " + what + ")", x.has(2, what), 0);
        }
        x.read(3);
        checks.due("has(3, 3), the greatest place", x.has(3, 3), 28);
    }

    private void hasWhenNotOpen() {
        checks.sentence("Promise 16: 0 when it isn't open");
        RecordSystem x = new RecordSystem();
        checks.same("control 0, never opened", Disks.control(x, 0), CLOSED);
        Disks.entry(x, 0, 0, Disks.BLANK, 0, 28, 8, 9, 10, 11, 12, 13, 14);
        x.open(0);
        x.at(0, 27, false);
        x.close(0);
        checks.same("control 0, closed", Disks.control(x, 0), CLOSED);
    }

    private void setFirstAndLast() {
        checks.sentence("Promise 17: Byte i of the buffer becomes v. Answers what it was.");
        RecordSystem x = new RecordSystem();
        for (int i : new int[] {0, 7, 8, 15}) {
            checks.due("set(" + i + ", 255)", x.set(i, 255), 0);
            checks.due("set(" + i + ", 0)", x.set(i, 0), 255);
            checks.due("set(" + i + ", 128)", x.set(i, 128), 0);
            checks.due("set(" + i + ", 127)", x.set(i, 127), 128);
        }
        checks.due("buffer(0)", x.buffer(0), 0x7f0000000000007fL);
        checks.due("buffer(1)", x.buffer(1), 0x7f0000000000007fL);
    }

    private void bufferHalves() {
        checks.sentence("Promise 18: Eight bytes of the buffer from byte 8 half on, the first one the lowest.");
        for (int i = 0; i < 16; i++) {
            RecordSystem x = new RecordSystem();
            x.set(i, 255);
            checks.due("byte " + i + " set, buffer(0)", x.buffer(0), i < 8 ? 255L << 8 * i : 0);
            checks.due("byte " + i + " set, buffer(1)", x.buffer(1), i < 8 ? 0 : 255L << 8 * (i - 8));
        }
    }

    private void diskAndSpoilFirstAndLast() {
        checks.sentence("Promises 19 and 20: Byte i of the disk");
        RecordSystem x = new RecordSystem();
        for (int i : new int[] {0, 1, 511, 512, 4094, 4095}) {
            for (int v : new int[] {255, 0, 128, 1}) {
                x.spoil(i, v);
                checks.due("disk(" + i + ") behind spoil(" + i + ", " + v + ")", x.disk(i), v);
            }
        }
        checks.due("disk(2)", x.disk(2), 0);
        checks.due("disk(510)", x.disk(510), 0);
        checks.due("disk(513)", x.disk(513), 0);
        checks.due("disk(4093)", x.disk(4093), 0);
    }

    private void spoilWhateverPower() {
        checks.sentence("Promise 20: whatever power there is");
        RecordSystem x = new RecordSystem();
        x.power(0);
        x.spoil(4095, 9);
        checks.due("disk(4095) without power", x.disk(4095), 9);
        x.make(0);
        x.spoil(4095, 10);
        checks.due("disk(4095) behind a lost write", x.disk(4095), 10);
        x.power(1);
        x.spoil(4095, 11);
        checks.due("told(3)", x.told(3), 0);
        checks.due("make(0): the last write is still to come", x.make(0), 0);
    }

    private void toldUntaken() {
        checks.sentence("Promise 21: How many blocks aren't taken (what = 0)");
        RecordSystem x = new RecordSystem();
        x.make(0);
        for (int untaken = 55; untaken >= 0; untaken--) {
            checks.due("at(0, .., true)", x.at(0, 4 * (55 - untaken), true), 0);
            checks.due("told(0)", x.told(0), untaken);
        }
        checks.due("at(0, 224, true)", x.at(0, 224, true), -4);
        checks.due("told(0)", x.told(0), 0);
        x.close(0);
        x.erase(0);
        checks.due("told(0)", x.told(0), 56);
    }

    private void toldMoreThanOnce() {
        checks.sentence("Promise 21: blocks 8 to 63 that are told by more than one place"
            + " of entries that aren't free (1)");
        for (int block : new int[] {1, 7, 8, 9, 62, 63}) {
            String told = "block " + block + ": ";
            RecordSystem x = new RecordSystem();
            Disks.entry(x, 0, 0, "A     ", 0, 0, 0, 0, 0, 0, 0, 0, block);
            checks.due(told + "told once", x.told(1), 0);
            x.spoil(9, 192 + block);
            checks.due(told + "twice in an entry", x.told(1), block < 8 ? 0 : 1);
            x.spoil(9, 0);
            Disks.entry(x, 31, 15, "B     ", 255, 255, block);
            checks.due(told + "by two entries", x.told(1), block < 8 ? 0 : 1);
            x.spoil(31 * 16 + 10, block);
            checks.due(told + "three times", x.told(1), block < 8 ? 0 : 1);
            x.spoil(31 * 16, 16);
            checks.due(told + "by one that is free, too", x.told(1), 0);
        }
        allToldTwice();
    }

    private void allToldTwice() {
        RecordSystem x = new RecordSystem();
        for (int entry = 0; entry < 16; entry++) {
            x.spoil(16 * entry, entry);
            for (int k = 0; k < 7; k++) {
                x.spoil(16 * entry + 9 + k, 8 + (7 * entry + k) % 56);
            }
        }
        checks.due("told(1), all 56", x.told(1), 56);
        checks.due("told(0): nobody logged in", x.told(0), 56);
        checks.due("told(1) of a new object", new RecordSystem().told(1), 0);
    }

    private void toldFree() {
        checks.sentence("Promise 21: entries that are free (2)");
        RecordSystem x = new RecordSystem();
        for (int entry = 0; entry < 32; entry++) {
            checks.due("told(2)", x.told(2), 32 - entry);
            x.make(0);
        }
        checks.due("told(2), none", x.told(2), 0);
        x.spoil(31 * 16, 16);
        checks.due("told(2), one", x.told(2), 1);
        x.spoil(31 * 16, 15);
        checks.due("told(2), none", x.told(2), 0);
        x.erase(0);
        checks.due("told(2), but for user 15's", x.told(2), 31);
    }
}
