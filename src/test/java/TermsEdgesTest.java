/** The boundary cases that the document's terms name: the disk, the entries, names, blocks and controls. */
public final class TermsEdgesTest {
    private static final String CLOSED = "0 0 0 0 0 0 0 0 0 0 0";

    private final Checks checks = new Checks();

    public static void main(String[] args) {
        new TermsEdgesTest().run();
    }

    private void run() {
        lastRecordOfTheDisk();
        directoryEndsWithEntry31();
        usersUpTo15();
        userOfAnEntryIsTheWholeByte();
        stretchesUpTo15AndBeyond();
        countsUpTo28AndBeyond();
        sevenBlockNumbers();
        blockNumberNought();
        blockNumbersModulo64();
        readOnlyBit();
        namesBySevenBits();
        whereARecordStands();
        blocks0To7AreTaken();
        takenAsOfTheLogin();
        takenSinceTheLogin();
        fourControls();
        wanted63FitsAny();
        placesUpTo28();
        bufferOf16Bytes();
        userNoughtAtFirst();
        fitsByUserAndName();
        checks.finish();
    }

    private void lastRecordOfTheDisk() {
        checks.sentence("THE DISK: 64 BLOCKS of four RECORDS, a record 16 bytes.");
        RecordSystem x = new RecordSystem();
        Disks.entry(x, 0, 0, Disks.BLANK, 0, 0, 0, 0, 0, 0, 0, 0, 63);
        x.open(0);
        Disks.fill(x, 200);
        checks.due("at(0, 27, true): record 3 of block 63", x.at(0, 27, true), 0);
        checks.due("the byte before", x.disk(4079), 0);
        checks.due("the first byte", x.disk(4080), 200);
        checks.due("the last byte of all", x.disk(4095), 200);
        Disks.fill(x, 100);
        checks.due("at(0, 24, true): record 0 of block 63", x.at(0, 24, true), 0);
        checks.due("the byte before", x.disk(4031), 0);
        checks.due("the first byte", x.disk(4032), 100);
        checks.due("the last byte", x.disk(4047), 100);
        checks.due("the byte behind", x.disk(4048), 0);
    }

    private void directoryEndsWithEntry31() {
        checks.sentence("Blocks 0 to 7 are the DIRECTORY: its records are the ENTRIES 0 .. 31.");
        for (int record : new int[] {0, 31, 32, 255}) {
            boolean is = record < 32;
            String told = "record " + record + ": ";
            RecordSystem x = Disks.wanting("A     ", "B     ");
            Disks.entry(x, record, 0, "A     ", 0, 5, 40, 40);
            checks.due(told + "told(1)", x.told(1), is ? 1 : 0);
            checks.due(told + "told(2)", x.told(2), is ? 31 : 32);
            checks.due(told + "login(0)", x.login(0), is ? 55 : 56);
            checks.due(told + "search(0, 0)", x.search(0, 0), is ? record : -1);
            checks.due(told + "search(0, 31)", x.search(0, 31), record == 31 ? 31 : -1);
            checks.due(told + "size(0)", x.size(0), is ? 5 : 0);
            checks.due(told + "guard(0, true)", x.guard(0, true), is ? 1 : -1);
            checks.due(told + "rename(0, 1), read only", x.rename(0, 1), is ? -3 : -1);
            checks.due(told + "erase(0), read only", x.erase(0), is ? -3 : -1);
            Disks.readOnly(x, record);
            checks.due(told + "rename(0, 1), its bit set", x.rename(0, 1), is ? -3 : -1);
            checks.due(told + "erase(0), its bit set", x.erase(0), is ? -3 : -1);
            checks.due(told + "guard(0, false)", x.guard(0, false), is ? 1 : -1);
            checks.due(told + "open(0)", x.open(0), is ? record : -1);
            checks.due(told + "close(0)", x.close(0), is ? record : -1);
            checks.due(told + "rename(0, 1)", x.rename(0, 1), is ? 1 : -1);
            checks.due(told + "erase(1)", x.erase(1), is ? 1 : -1);
            checks.due(told + "its first byte", x.disk(16 * record), is ? 229 : 0);
        }
        directoryEndsForStretches();
    }

    private void directoryEndsForStretches() {
        for (int record : new int[] {1, 31, 32}) {
            RecordSystem x = new RecordSystem();
            x.make(0);
            Disks.entry(x, record, 0, Disks.BLANK, 3, 5, 40);
            checks.due("at(0, 84, false), its stretch in record " + record, x.at(0, 84, false), record < 32 ? 0 : -1);
        }
        RecordSystem y = new RecordSystem();
        y.spoil(512, 229);
        for (int entry = 0; entry < 32; entry++) {
            checks.due("make(0)", y.make(0), entry);
        }
        checks.due("make(0), record 32 looking free", y.make(0), -2);
        checks.due("at(0, 28, true), record 32 looking free", y.at(0, 28, true), -2);
    }

    private void usersUpTo15() {
        checks.sentence("0 the USER 0 .. 15, or 229 for a free one (all others count as free, too)");
        for (int user : new int[] {0, 14, 15, 16, 17, 127, 128, 228, 229, 230, 255}) {
            boolean isFree = user > 15;
            String told = "byte 0 is " + user + ": ";
            RecordSystem x = new RecordSystem();
            Disks.entry(x, 0, user, Disks.BLANK, 0, 3, 40, 40, 41);
            checks.due(told + "told(1)", x.told(1), isFree ? 0 : 1);
            checks.due(told + "told(2)", x.told(2), isFree ? 32 : 31);
            checks.due(told + "login(1)", x.login(1), isFree ? 56 : 54);
            checks.due(told + "make(0)", x.make(0), isFree ? 0 : 1);
            checks.due(told + "at(0, 28, true)", x.at(0, 28, true), 0);
            checks.due(told + "the entry of stretch 1", x.disk(isFree ? 16 : 32), 1);
        }
    }

    private void userOfAnEntryIsTheWholeByte() {
        checks.sentence("An entry FITS a control if its user is the user");
        for (int there : new int[] {0, 1, 15, 16, 31, 229, 240}) {
            RecordSystem x = new RecordSystem();
            Disks.entry(x, 7, there, Disks.BLANK, 0, 3, 40);
            for (int user = 0; user <= 15; user++) {
                x.login(user);
                String told = "user " + user + ", byte 0 is " + there + ": ";
                checks.due(told + "search(0, 0)", x.search(0, 0), user == there ? 7 : -1);
                checks.due(told + "open(0)", x.open(0), user == there ? 7 : -1);
                checks.due(told + "size(0)", x.size(0), user == there ? 3 : 0);
            }
        }
    }

    private void stretchesUpTo15AndBeyond() {
        checks.sentence("7 the STRETCH, 0 .. 15 (bytes beyond count as they are, in both)");
        for (int stretch : new int[] {0, 1, 15, 16, 17, 31, 128, 255}) {
            String told = "stretch " + stretch + ": ";
            RecordSystem x = Disks.wanting("A     ", "B     ");
            Disks.entry(x, 4, 0, "A     ", stretch, 2, 40);
            checks.due(told + "search(0, 0)", x.search(0, 0), 4);
            checks.due(told + "size(0)", x.size(0), 28 * stretch + 2);
            checks.due(told + "open(0)", x.open(0), stretch == 0 ? 4 : -1);
            checks.due(told + "make(0)", x.make(0), 0);
            checks.due(told + "at(0, 28, false)", x.at(0, 28, false), stretch == 1 ? 0 : -1);
            checks.due(told + "at(0, 420, false)", x.at(0, 420, false), stretch == 15 ? 0 : -1);
            checks.due(told + "guard(0, true)", x.guard(0, true), 2);
            checks.due(told + "guard(0, false)", x.guard(0, false), 2);
            checks.due(told + "rename(0, 1)", x.rename(0, 1), 2);
            checks.due(told + "erase(1)", x.erase(1), 2);
        }
    }

    private void countsUpTo28AndBeyond() {
        checks.sentence("8 the COUNT of records, 0 .. 28 (bytes beyond count as they are, in both)");
        for (int count : new int[] {0, 1, 26, 27, 28, 29, 128, 255}) {
            String told = "count " + count + ": ";
            RecordSystem x = new RecordSystem();
            Disks.entry(x, 0, 0, Disks.BLANK, 0, count, 8, 9, 10, 11, 12, 13, 14);
            Disks.entry(x, 1, 0, Disks.BLANK, 1, 1, 15);
            x.open(0);
            checks.due(told + "has(0, 2)", x.has(0, 2), count);
            checks.due(told + "at(0, 26, false)", x.at(0, 26, false), count >= 27 ? 0 : -1);
            checks.due(told + "at(0, 27, false)", x.at(0, 27, false), count >= 28 ? 0 : -1);
            checks.due(told + "at(0, 26, true)", x.at(0, 26, true), 0);
            checks.due(told + "has(0, 2)", x.has(0, 2), count < 27 ? 27 : count);
            checks.due(told + "at(0, 27, true)", x.at(0, 27, true), 0);
            checks.due(told + "has(0, 2)", x.has(0, 2), count < 28 ? 28 : count);
            checks.due(told + "read(0) at place 27", x.read(0), 0);
            checks.due(told + "read(0) at place 28", x.read(0), 0);
            checks.due(told + "has(0, 1)", x.has(0, 1), 1);
            checks.due(told + "the count that was kept", x.disk(8), count < 28 ? 28 : count);
        }
        countsInSizes();
    }

    private void countsInSizes() {
        for (int count : new int[] {0, 28, 29, 255}) {
            RecordSystem x = new RecordSystem();
            Disks.entry(x, 9, 0, Disks.BLANK, 2, count);
            checks.due("size(0) with stretch 2, count " + count, x.size(0), 56 + count);
        }
    }

    private void sevenBlockNumbers() {
        checks.sentence("9 to 15 seven block numbers");
        for (int i = 7; i <= 16; i++) {
            boolean tells = i >= 9 && i <= 15;
            String told = "byte " + i + " of an entry: ";
            RecordSystem x = new RecordSystem();
            Disks.entry(x, 5, 0, Disks.BLANK, 0, 0);
            x.spoil(5 * 16 + i, 9);
            Disks.entry(x, 7, 0, "OTHER ", 0, 0, 9);
            checks.due(told + "told(1)", x.told(1), tells ? 1 : 0);
            x.spoil(7 * 16 + 9, 0);
            checks.due(told + "login(0)", x.login(0), tells ? 55 : 56);
            x.spoil(7 * 16 + 9, 9);
            x.login(0);
            checks.due(told + "erase(0)", x.erase(0), 1);
            checks.due(told + "told(0)", x.told(0), tells ? 56 : 55);
        }
        for (int k = 0; k < 7; k++) {
            RecordSystem x = new RecordSystem();
            Disks.entry(x, 0, 0, Disks.BLANK, 0, 28);
            x.spoil(9 + k, 50);
            x.open(0);
            for (int p = 0; p < 28; p++) {
                checks.due("block at place " + k + ": at(0, " + p + ", false)", x.at(0, p, false), p / 4 == k ? 0 : -1);
            }
        }
    }

    private void blockNumberNought() {
        checks.sentence("seven block numbers, 0 for none");
        RecordSystem x = new RecordSystem();
        Disks.entry(x, 0, 0, Disks.BLANK, 0, 28, 0, 1);
        x.login(0);
        x.open(0);
        checks.due("at(0, 0, false), block 0", x.at(0, 0, false), -1);
        checks.due("at(0, 4, false), block 1", x.at(0, 4, false), 0);
        checks.due("at(0, 4, true), block 1", x.at(0, 4, true), 0);
        checks.due("told(0): nothing was given", x.told(0), 56);
        checks.due("at(0, 0, true), block 0", x.at(0, 0, true), 0);
        checks.due("has(0, 4): one was given", x.has(0, 4), 8);
        checks.due("disk(0): the entry is no record", x.disk(1), 32);
    }

    private void blockNumbersModulo64() {
        checks.sentence("others count modulo 64, where they are used");
        for (int number : new int[] {7, 8, 63, 64, 71, 72, 127, 128, 135, 136, 192, 200, 255}) {
            int block = number % 64;
            String told = "block number " + number + ": ";
            RecordSystem x = Disks.wanting("A     ", "B     ");
            Disks.entry(x, 30, 0, "A     ", 0, 28, 0, 0, 0, 0, 0, 0, number);
            x.spoil(64 * block + 48 + 9, 99);
            checks.due(told + "login(0)", x.login(0), block < 8 ? 56 : 55);
            x.open(0);
            checks.due(told + "has(0, 10)", x.has(0, 10), number);
            checks.due(told + "at(0, 27, false)", x.at(0, 27, false), 0);
            checks.due(told + "buffer(1)", x.buffer(1) >> 8 & 255, 99);
            x.set(9, 111);
            checks.due(told + "at(0, 27, true)", x.at(0, 27, true), 0);
            checks.due(told + "where it was written", x.disk(64 * block + 48 + 9), 111);
            checks.due(told + "told(0)", x.told(0), block < 8 ? 56 : 55);
            checks.due(told + "close(0)", x.close(0), 30);
            checks.due(told + "the number is kept", x.disk(30 * 16 + 15), number);
            Disks.entry(x, 29, 1, "C     ", 0, 0, block);
            checks.due(told + "told(1)", x.told(1), block < 8 ? 0 : 1);
            checks.due(told + "erase(0)", x.erase(0), 1);
            checks.due(told + "told(0)", x.told(0), 56);
        }
    }

    private void readOnlyBit() {
        checks.sentence("Bit 7 of byte 5 of an entry is 1 for a file that is READ ONLY");
        for (int i = 1; i <= 6; i++) {
            for (int bit = 0; bit < 8; bit++) {
                boolean isReadOnly = i == 5 && bit == 7;
                String told = "bit " + bit + " of byte " + i + ": ";
                RecordSystem x = Disks.wanting("??????", "A     ");
                Disks.entry(x, 3, 0, "\0\0\0\0\0\0", 0, 1, 8);
                x.spoil(3 * 16 + i, 1 << bit);
                x.open(0);
                checks.due(told + "write(0)", x.write(0), isReadOnly ? -3 : 0);
                checks.due(told + "erase(0)", x.erase(0), isReadOnly ? -3 : 1);
                x.spoil(3 * 16, 0);
                checks.due(told + "rename(0, 1)", x.rename(0, 1), isReadOnly ? -3 : 1);
            }
        }
        readOnlyBitOfStretchOrCount();
    }

    private void readOnlyBitOfStretchOrCount() {
        RecordSystem x = new RecordSystem();
        Disks.entry(x, 0, 0, Disks.BLANK, 0, 255, 255, 255, 255, 255, 255, 255, 255);
        x.open(0);
        checks.due("at(0, 5, true), bits 7 of all other bytes", x.at(0, 5, true), 0);
        checks.due("erase(0)", x.erase(0), 1);
    }

    private void namesBySevenBits() {
        checks.sentence("names are told and compared by the lowest seven bits of their bytes");
        for (int i = 1; i <= 6; i++) {
            for (int bit = 0; bit < 8; bit++) {
                String told = "bit " + bit + " of byte " + i + " is another: ";
                RecordSystem x = Disks.wanting("ABCDEF");
                Disks.entry(x, 2, 0, "ABCDEF", 0, 4);
                x.spoil(32 + i, x.disk(32 + i) ^ 1 << bit);
                checks.due(told + "search(0, 0)", x.search(0, 0), bit == 7 ? 2 : -1);
                checks.due(told + "open(0)", x.open(0), bit == 7 ? 2 : -1);
                checks.due(told + "size(0)", x.size(0), bit == 7 ? 4 : 0);
                checks.due(told + "guard(0, false)", x.guard(0, false), bit == 7 ? 1 : -1);
            }
        }
        for (int letter : new int[] {0, 1, 62, 64, 126, 127}) {
            RecordSystem x = new RecordSystem();
            x.name(0, Disks.name("" + (char) letter + "BCDE" + (char) letter));
            Disks.entry(x, 2, 0, "" + (char) letter + "BCDE" + (char) (letter + 128), 0, 4);
            checks.due("search(0, 0), letter " + letter, x.search(0, 0), 2);
        }
    }

    private void whereARecordStands() {
        checks.sentence("Record R of a file is record R % 28 of its stretch R / 28,"
            + " in the block told at place (R % 28) / 4, its record R % 4.");
        for (int r : new int[] {0, 3, 4, 27, 28, 31, 32, 55, 56, 419, 420, 444, 446, 447}) {
            String told = "record " + r + ": ";
            RecordSystem x = new RecordSystem();
            x.make(0);
            x.set(15, 123);
            checks.due(told + "put", x.at(0, r, true), 0);
            checks.due(told + "stretch", x.has(0, 1), r / 28);
            checks.due(told + "count", x.has(0, 2), r % 28 + 1);
            checks.due(told + "place", x.has(0, 3), r % 28);
            for (int k = 0; k < 7; k++) {
                checks.due(told + "block " + k, x.has(0, 4 + k), k == r % 28 / 4 ? 8 : 0);
            }
            for (int record = 0; record < 4; record++) {
                int due = record == r % 4 ? 123 : 0;
                checks.due(told + "record " + record + " of it", x.disk(512 + 16 * record + 15), due);
            }
            checks.due(told + "close", x.close(0), r < 28 ? 0 : 1);
            checks.due(told + "size", x.size(0), r + 1);
        }
    }

    private void blocks0To7AreTaken() {
        checks.sentence("A BLOCK IS TAKEN if it is 0 to 7");
        RecordSystem x = new RecordSystem();
        checks.due("told(0)", x.told(0), 56);
        x.make(0);
        for (int b = 8; b <= 63; b++) {
            checks.due("put where no block is told", x.at(0, 4 * (b - 8), true), 0);
            checks.due("the block given", x.has(0, 4 + (b - 8) % 7), b);
        }
        checks.due("told(0)", x.told(0), 0);
        checks.due("put with 8 to 63 given", x.at(0, 4 * 56, true), -4);
        blocks0To7CannotBeGivenBack();
    }

    private void blocks0To7CannotBeGivenBack() {
        RecordSystem x = new RecordSystem();
        Disks.entry(x, 0, 0, Disks.BLANK, 0, 0, 1, 6, 7, 8, 64, 71, 72);
        checks.due("login(0)", x.login(0), 55);
        checks.due("erase(0)", x.erase(0), 1);
        checks.due("told(0)", x.told(0), 56);
        x.make(0);
        x.write(0);
        checks.due("has(0, 4)", x.has(0, 4), 8);
    }

    private void takenAsOfTheLogin() {
        checks.sentence("or told by an entry that isn't free, as it was when one LOGGED IN last");
        RecordSystem x = Disks.wanting("A     ");
        Disks.entry(x, 31, 9, "OTHER ", 77, 0, 8, 9, 10);
        checks.due("told(0): told, but not since a login", x.told(0), 56);
        checks.due("login(0)", x.login(0), 53);
        x.spoil(31 * 16, 229);
        checks.due("told(0): free since the login", x.told(0), 53);
        x.make(0);
        x.write(0);
        checks.due("has(0, 4): taken as it was", x.has(0, 4), 11);
        x.spoil(9, 40);
        x.spoil(10, 12);
        checks.due("told(0): told since the login", x.told(0), 52);
        x.at(0, 4, true);
        checks.due("has(0, 5): a block told since", x.has(0, 5), 12);
        x.close(0);
        checks.due("told(0): a close takes nothing, whatever the entry told", x.told(0), 51);
        checks.due("login(0)", x.login(0), 54);
    }

    private void takenSinceTheLogin() {
        checks.sentence("or was given since, and not given back");
        RecordSystem x = Disks.wanting("A     ", "B     ");
        x.make(0);
        x.make(1);
        x.write(0);
        x.write(1);
        checks.due("told(0)", x.told(0), 54);
        x.name(0, Disks.name("A     "));
        checks.due("told(0): given, though no entry tells it", x.told(0), 54);
        x.close(1);
        checks.due("erase(1)", x.erase(1), 1);
        checks.due("told(0): given back", x.told(0), 55);
        x.make(1);
        x.write(1);
        checks.due("has(1, 4): 8 is still taken, 9 isn't", x.has(1, 4), 9);
        checks.due("login(0)", x.login(0), 56);
    }

    private void fourControls() {
        checks.sentence("CONTROLS 0 to 3: each has a WANTED name");
        RecordSystem x = Disks.wanting("A     ", "B     ", "C     ", "D     ");
        for (int c = 0; c < 4; c++) {
            checks.due("make(" + c + ")", x.make(c), c);
            checks.due("its name", x.disk(16 * c + 1), 'A' + c);
        }
        checks.due("at(3, 9, true)", x.at(3, 9, true), 0);
        checks.due("at(0, 30, true)", x.at(0, 30, true), 0);
        checks.same("control 0", Disks.control(x, 0), "1 1 3 2 9 0 0 0 0 0 0");
        checks.same("control 1", Disks.control(x, 1), "1 0 0 0 0 0 0 0 0 0 0");
        checks.same("control 2", Disks.control(x, 2), "1 0 0 0 0 0 0 0 0 0 0");
        checks.same("control 3", Disks.control(x, 3), "1 0 10 9 0 0 8 0 0 0 0");
        checks.due("close(3)", x.close(3), 3);
        checks.same("control 3", Disks.control(x, 3), CLOSED);
        checks.due("has(2, 0)", x.has(2, 0), 1);
    }

    private void wanted63FitsAny() {
        checks.sentence("a WANTED name (where a byte 63 fits any)");
        for (int i = 0; i < 6; i++) {
            for (int wanted : new int[] {0, 31, 62, 63, 64, 127, 128 + 62, 128 + 63, 128 + 64}) {
                RecordSystem x = new RecordSystem();
                x.name(0, with("ABCDEF", i, wanted));
                Disks.entry(x, 6, 0, "ABCDEF", 0, 0);
                String told = "wanted byte " + i + " is " + wanted + ": ";
                checks.due(told + "search(0, 0)", x.search(0, 0), (wanted & 127) == 63 ? 6 : -1);
            }
            for (int there : new int[] {0, 62, 63, 64, 127, 128, 191, 255}) {
                RecordSystem x = new RecordSystem();
                x.name(0, with("ABCDEF", i, 63));
                x.name(1, with("ABCDEF", i, 'Z'));
                Disks.entry(x, 6, 0, "ABCDEF", 0, 0);
                x.spoil(6 * 16 + 1 + i, there);
                checks.due("any, for " + there + " at byte " + i, x.search(0, 0), 6);
                checks.due("Z, for " + there + " at byte " + i + ": only a wanted 63 fits any", x.search(1, 0), -1);
            }
        }
        RecordSystem y = Disks.wanting("??????");
        Disks.entry(y, 6, 1, "ABCDEF", 0, 0);
        checks.due("any name of another user", y.search(0, 0), -1);
    }

    private static long with(String six, int i, int letter) {
        StringBuilder text = new StringBuilder(six);
        text.setCharAt(i, (char) letter);
        return Disks.name(text.toString());
    }

    private void placesUpTo28() {
        checks.sentence("the PLACE 0 .. 28: the next record of the stretch");
        RecordSystem x = new RecordSystem();
        x.make(0);
        checks.due("place at first", x.has(0, 3), 0);
        for (int p = 1; p <= 28; p++) {
            x.set(0, p);
            x.write(0);
            checks.due("place", x.has(0, 3), p);
        }
        checks.due("stretch at place 28", x.has(0, 1), 0);
        checks.due("write(0)", x.write(0), 0);
        checks.due("place, not 29", x.has(0, 3), 1);
        checks.due("stretch", x.has(0, 1), 1);
        x.at(0, 26, false);
        checks.due("read(0) of the next record, 26", x.read(0), 0);
        checks.due("byte 0", x.buffer(0) & 255, 27);
        checks.due("read(0) of the next record, 27", x.read(0), 0);
        checks.due("byte 0", x.buffer(0) & 255, 28);
        checks.due("place", x.has(0, 3), 28);
    }

    private void bufferOf16Bytes() {
        checks.sentence("THE BUFFER is 16 bytes.");
        RecordSystem x = new RecordSystem();
        x.make(0);
        for (int i = 0; i < 16; i++) {
            checks.due("set(" + i + ")", x.set(i, 255 - i), 0);
        }
        x.write(0);
        String due = "255 254 253 252 251 250 249 248 247 246 245 244 243 242 241 240";
        checks.same("the record", Disks.bytes(x, 32), due);
        checks.due("the byte behind", x.disk(528), 0);
        Disks.fill(x, 1);
        x.at(0, 0, false);
        checks.due("buffer(0)", x.buffer(0), 0xf8f9fafbfcfdfeffL);
        checks.due("buffer(1)", x.buffer(1), 0xf0f1f2f3f4f5f6f7L);
    }

    private void userNoughtAtFirst() {
        checks.sentence("There is a USER, 0 at first.");
        RecordSystem x = new RecordSystem();
        Disks.entry(x, 1, 1, Disks.BLANK, 0, 0);
        checks.due("search(0, 0)", x.search(0, 0), -1);
        checks.due("make(0)", x.make(0), 0);
        checks.due("its user", x.disk(0), 0);
        checks.due("search(0, 0)", x.search(0, 0), 0);
    }

    private void fitsByUserAndName() {
        checks.sentence("An entry FITS a control if its user is the user, and its name fits.");
        RecordSystem x = Disks.wanting("A     ");
        Disks.entry(x, 0, 1, "A     ", 0, 0);
        Disks.entry(x, 1, 0, "B     ", 0, 0);
        checks.due("search(0, 0): one has the name, one the user", x.search(0, 0), -1);
        checks.due("erase(0)", x.erase(0), -1);
        Disks.entry(x, 2, 0, "A     ", 0, 0);
        checks.due("search(0, 0)", x.search(0, 0), 2);
        checks.due("erase(0)", x.erase(0), 1);
        checks.due("disk(0)", x.disk(0), 1);
        checks.due("disk(16)", x.disk(16), 0);
        checks.due("disk(32)", x.disk(32), 229);
    }
}
