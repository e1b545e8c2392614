/** The boundary cases that the document names for OPEN, MAKE, CLOSE, ERASE, NAME and GUARD. */
public final class DirectoryEdgesTest {
    private static final String CLOSED = "0 0 0 0 0 0 0 0 0 0 0";
    private static final String EMPTY = "1 0 0 0 0 0 0 0 0 0 0";

    private final Checks checks = new Checks();

    public static void main(String[] args) {
        new DirectoryEdgesTest().run();
    }

    private void run() {
        openTheFirstThatFits();
        openOfStretchNought();
        openAtPlaceNought();
        openReadOnlyOrNot();
        openFindsNothing();
        makeTheFirstFree();
        makeAllBytes();
        makeBeginsAnew();
        makeBeforeTheWrite();
        makeFull();
        closeTheFirstThatFits();
        closeCountAndBlocks();
        closeWhateverComesOfIt();
        closeWhatIsNotOpen();
        eraseAllThatFit();
        eraseByteNoughtAlone();
        eraseBlocks();
        eraseBlocksBeforeEachWrite();
        eraseReadOnly();
        renameAllThatFit();
        renameAsNamesAreBefore();
        renameA63AsItIs();
        renameSevenBits();
        renameReadOnly();
        guardAllThatFit();
        guardBothWays();
        checks.finish();
    }

    /** Entries 2, 30 and 31 are A's, 3 is another user's, 4 has another name. */
    private static RecordSystem someFiles() {
        RecordSystem x = Disks.wanting("A     ", "B     ", "A?????", "??????");
        Disks.entry(x, 2, 5, "A     ", 0, 28, 8, 9, 10, 11, 12, 13, 14);
        Disks.entry(x, 3, 6, "A     ", 0, 7, 15, 16);
        Disks.entry(x, 4, 5, "AB    ", 0, 7, 17, 18);
        Disks.entry(x, 30, 5, "A     ", 1, 5, 19, 20);
        Disks.entry(x, 31, 5, "A     ", 200, 3, 21);
        x.login(5);
        return x;
    }

    private void openTheFirstThatFits() {
        checks.sentence("OPEN: the first entry that fits, of stretch 0");
        RecordSystem x = new RecordSystem();
        Disks.entry(x, 0, 1, Disks.BLANK, 0, 1, 8);
        Disks.entry(x, 1, 0, "X     ", 0, 2, 9);
        Disks.entry(x, 30, 0, Disks.BLANK, 0, 3, 10);
        Disks.entry(x, 31, 0, Disks.BLANK, 0, 4, 11);
        checks.due("open(0)", x.open(0), 30);
        checks.same("control 0", Disks.control(x, 0), "1 0 3 0 10 0 0 0 0 0 0");
        x.spoil(30 * 16, 229);
        checks.due("open(0) without the first", x.open(0), 31);
        checks.same("control 0", Disks.control(x, 0), "1 0 4 0 11 0 0 0 0 0 0");
        checks.due("told(3): nothing is written", x.told(3), 0);
    }

    private void openOfStretchNought() {
        checks.sentence("of stretch 0: the control is open then, with its stretch, count, blocks");
        for (int stretch : new int[] {0, 1, 15, 16, 128, 255}) {
            RecordSystem x = new RecordSystem();
            Disks.entry(x, 8, 0, Disks.BLANK, stretch, 28, 8, 0, 10, 11, 12, 13, 255);
            checks.due("open(2), an entry of stretch " + stretch, x.open(2), stretch == 0 ? 8 : -1);
            String open = "1 0 28 0 8 0 10 11 12 13 255";
            checks.same("control 2", Disks.control(x, 2), stretch == 0 ? open : CLOSED);
        }
    }

    private void openAtPlaceNought() {
        checks.sentence("OPEN: place 0");
        RecordSystem x = new RecordSystem();
        Disks.entry(x, 0, 0, Disks.BLANK, 0, 28, 8, 9, 10, 11, 12, 13, 14);
        x.open(0);
        x.at(0, 27, false);
        x.read(0);
        checks.due("place", x.has(0, 3), 28);
        checks.due("open(0) while open", x.open(0), 0);
        checks.due("place", x.has(0, 3), 0);
        checks.due("told(3): that is no close", x.told(3), 0);
    }

    private void openReadOnlyOrNot() {
        checks.sentence("and whether it is read only");
        RecordSystem x = Disks.wanting("A     ", "B     ");
        Disks.entry(x, 0, 0, "A     ", 0, 1, 8);
        Disks.entry(x, 1, 0, "B     ", 0, 1, 9);
        Disks.readOnly(x, 0);
        x.open(0);
        x.open(1);
        checks.due("write(0)", x.write(0), -3);
        checks.due("write(1)", x.write(1), 0);
        x.spoil(5, 32);
        checks.due("write(0), not opened anew", x.write(0), -3);
        x.open(0);
        checks.due("write(0), opened anew", x.write(0), 0);
        Disks.readOnly(x, 0);
        checks.due("write(0), read only since", x.write(0), 0);
        x.open(0);
        checks.due("write(0), opened anew", x.write(0), -3);
    }

    private void openFindsNothing() {
        checks.sentence("(NONE: it isn't open.)");
        RecordSystem x = new RecordSystem();
        checks.due("open(0) in an empty directory", x.open(0), -1);
        checks.same("control 0", Disks.control(x, 0), CLOSED);
        x.make(0);
        x.write(0);
        x.spoil(0, 16);
        checks.due("open(0) with its entry gone", x.open(0), -1);
        checks.same("control 0 was open", Disks.control(x, 0), CLOSED);
        checks.due("write(0)", x.write(0), -1);
        checks.due("close(0)", x.close(0), -1);
    }

    private void makeTheFirstFree() {
        checks.sentence("MAKE: the first free entry becomes one of the user");
        RecordSystem x = new RecordSystem();
        for (int entry = 0; entry < 32; entry++) {
            x.login(entry % 16);
            checks.due("make(0)", x.make(0), entry);
            checks.due("its user", x.disk(16 * entry), entry % 16);
        }
        x.spoil(31 * 16, 16);
        checks.due("make(0), the last one free", x.make(0), 31);
        x.spoil(31 * 16, 255);
        x.spoil(0, 229);
        checks.due("make(0), the first and the last one free", x.make(0), 0);
    }

    private void makeAllBytes() {
        checks.sentence("with the wanted name, stretch 0, count 0, no blocks");
        RecordSystem x = Disks.wanting("A?\0\u007fEF");
        x.login(15);
        for (int i = 16; i < 32; i++) {
            x.spoil(i, 255);
        }
        x.spoil(0, 0);
        checks.due("make(0)", x.make(0), 1);
        checks.same("the entry", Disks.bytes(x, 1), "15 65 63 0 127 69 70 0 0 0 0 0 0 0 0 0");
        checks.due("the byte before", x.disk(15), 0);
        checks.due("the byte behind", x.disk(32), 229);
        checks.due("told(3)", x.told(3), 1);
        checks.due("told(0): nothing is taken by it", x.told(0), 56);
    }

    private void makeBeginsAnew() {
        checks.sentence("MAKE: the control is open so");
        RecordSystem x = new RecordSystem();
        Disks.entry(x, 0, 0, Disks.BLANK, 0, 28, 8, 9, 10, 11, 12, 13, 14);
        Disks.readOnly(x, 0);
        x.open(0);
        x.at(0, 27, false);
        x.read(0);
        checks.due("make(0) while open, at place 28, read only", x.make(0), 1);
        checks.same("control 0", Disks.control(x, 0), EMPTY);
        checks.due("write(0)", x.write(0), 0);
        checks.due("at(0, 28, true)", x.at(0, 28, true), 0);
        checks.due("make(0) in stretch 1", x.make(0), 3);
        checks.same("control 0", Disks.control(x, 0), EMPTY);
    }

    private void makeBeforeTheWrite() {
        checks.sentence("MAKE: (this before the write)");
        RecordSystem x = new RecordSystem();
        x.make(1);
        x.at(1, 9, true);
        x.power(0);
        checks.due("make(0)", x.make(0), -9);
        checks.same("control 0 is open so", Disks.control(x, 0), EMPTY);
        checks.due("make(1)", x.make(1), -9);
        checks.same("control 1 is open so", Disks.control(x, 1), EMPTY);
        checks.due("the entry is free", x.disk(16), 229);
        checks.due("its name", x.disk(17), 0);
        checks.due("told(2)", x.told(2), 31);
    }

    private void makeFull() {
        checks.sentence("MAKE: FULL (-2) if none is free.");
        RecordSystem x = new RecordSystem();
        for (int entry = 0; entry < 31; entry++) {
            x.make(3);
        }
        checks.due("make(0), one is free", x.make(0), 31);
        checks.due("make(0), none is free", x.make(0), -2);
        checks.due("make(1), none is free", x.make(1), -2);
        checks.same("control 1", Disks.control(x, 1), CLOSED);
        x.power(0);
        checks.due("make(0), none is free and no power", x.make(0), -2);
        x.spoil(16 * 17, 230);
        x.power(1);
        checks.due("make(0), one is free again", x.make(0), 17);
    }

    private void closeTheFirstThatFits() {
        checks.sentence("CLOSE: written to the first entry that fits with its stretch. Answers its number.");
        RecordSystem x = new RecordSystem();
        Disks.entry(x, 0, 0, Disks.BLANK, 1, 0);
        Disks.entry(x, 1, 1, Disks.BLANK, 0, 0);
        Disks.entry(x, 2, 0, "X     ", 0, 0);
        Disks.entry(x, 3, 0, Disks.BLANK, 128, 0);
        Disks.entry(x, 30, 0, Disks.BLANK, 0, 0);
        Disks.entry(x, 31, 0, Disks.BLANK, 0, 0);
        x.open(0);
        x.at(0, 10, true);
        checks.due("close(0)", x.close(0), 30);
        for (int entry : new int[] {0, 1, 2, 3, 30, 31}) {
            checks.due("count of entry " + entry, x.disk(16 * entry + 8), entry == 30 ? 11 : 0);
        }
        x.open(0);
        x.spoil(30 * 16, 200);
        checks.due("close(0), the one it was opened by being gone", x.close(0), 31);
        checks.due("count of entry 31", x.disk(31 * 16 + 8), 11);
        x.open(0);
        checks.due("make(1), before the one that control 0 was opened by", x.make(1), 4);
        checks.due("close(0): 31 fits, but isn't the first", x.close(0), 4);
        checks.due("count of entry 4", x.disk(4 * 16 + 8), 11);
    }

    private void closeCountAndBlocks() {
        checks.sentence("CLOSE: the control's count and blocks are written");
        RecordSystem x = Disks.wanting("ABCDEF");
        Disks.entry(x, 4, 0, "\u00c1\u00c2\u00c3\u00c4\u00c5\u00c6", 0, 0, 0, 70, 0, 0, 0, 0, 255);
        x.open(0);
        for (int i = 8; i < 16; i++) {
            x.spoil(4 * 16 + i, 99);
        }
        checks.due("close(0)", x.close(0), 4);
        String unchanged = "0 193 194 195 196 197 198 0 ";
        checks.same("the entry", Disks.bytes(x, 4), unchanged + "0 0 70 0 0 0 0 255");
        x.name(0, Disks.name("A     "));
        x.make(0);
        for (int p = 0; p < 28; p += 4) {
            x.at(0, p, true);
        }
        x.at(0, 27, true);
        checks.due("close(0) of a full stretch", x.close(0), 0);
        checks.same("the entry", Disks.bytes(x, 0), "0 65 32 32 32 32 32 0 28 8 9 10 11 12 13 14");
    }

    private void closeWhateverComesOfIt() {
        checks.sentence("CLOSE: and the control isn't open any more, whatever comes of that");
        RecordSystem x = new RecordSystem();
        x.make(0);
        checks.due("close(0)", x.close(0), 0);
        checks.same("control 0", Disks.control(x, 0), CLOSED);
        x.open(0);
        x.spoil(7, 1);
        checks.due("close(0) that finds nothing", x.close(0), -1);
        checks.same("control 0", Disks.control(x, 0), CLOSED);
        x.spoil(7, 0);
        x.open(0);
        x.power(0);
        checks.due("close(0) without power", x.close(0), -9);
        checks.same("control 0", Disks.control(x, 0), CLOSED);
        x.open(0);
        x.spoil(0, 1);
        checks.due("close(0) that finds nothing, and no power", x.close(0), -1);
        checks.same("control 0", Disks.control(x, 0), CLOSED);
    }

    private void closeWhatIsNotOpen() {
        checks.sentence("CALLS answer NONE if a control isn't open where it must be (close)");
        RecordSystem x = new RecordSystem();
        Disks.entry(x, 0, 0, Disks.BLANK, 0, 5, 8);
        checks.due("close(0), never opened", x.close(0), -1);
        x.open(0);
        x.close(0);
        checks.due("close(0) again", x.close(0), -1);
        x.open(0);
        x.name(0, Disks.name(Disks.BLANK));
        checks.due("close(0) behind a name", x.close(0), -1);
        x.open(0);
        x.login(0);
        checks.due("close(0) behind a login", x.close(0), -1);
        x.power(0);
        checks.due("close(0), not open, and no power", x.close(0), -1);
        checks.due("count", x.disk(8), 5);
    }

    private void eraseAllThatFit() {
        checks.sentence("ERASE: all entries that fit become free. Answers how many.");
        RecordSystem x = someFiles();
        checks.due("erase(1), none fits", x.erase(1), -1);
        checks.due("told(3)", x.told(3), 0);
        checks.due("erase(0), of any stretch", x.erase(0), 3);
        checks.due("told(3)", x.told(3), 3);
        for (int entry = 0; entry < 32; entry++) {
            checks.due("entry " + entry, x.disk(16 * entry), entry == 3 ? 6 : entry == 4 ? 5 : 229);
        }
        checks.due("erase(2)", x.erase(2), 1);
        checks.due("erase(2) again", x.erase(2), -1);
        RecordSystem y = Disks.wanting("??????");
        for (int entry = 0; entry < 32; entry++) {
            y.make(0);
        }
        checks.due("erase(0) of all 32", y.erase(0), 32);
        checks.due("told(2)", y.told(2), 32);
    }

    private void eraseByteNoughtAlone() {
        checks.sentence("ERASE: become free (byte 0 is 229)");
        RecordSystem x = Disks.wanting("ABCDEF");
        Disks.entry(x, 6, 0, "\u00c1\u00c2\u00c3\u00c4E\u00c6", 250, 251, 8, 9, 10, 11, 12, 13, 255);
        checks.due("erase(0)", x.erase(0), 1);
        checks.same("the entry", Disks.bytes(x, 6), "229 193 194 195 196 69 198 250 251 8 9 10 11 12 13 255");
    }

    private void eraseBlocks() {
        checks.sentence("and their blocks aren't taken any more (blocks 0 to 7 stay taken)");
        RecordSystem x = Disks.wanting("A     ", "B     ");
        Disks.entry(x, 1, 0, "A     ", 0, 0, 7, 8, 63, 64, 71, 0, 72);
        Disks.entry(x, 2, 0, "B     ", 0, 0, 9, 63);
        checks.due("login(0)", x.login(0), 53);
        checks.due("erase(0)", x.erase(0), 1);
        checks.due("told(0): 9 alone is taken, 63 isn't, though B tells it", x.told(0), 55);
        x.make(0);
        x.write(0);
        checks.due("the least that isn't taken", x.has(0, 4), 8);
        x.at(0, 4, true);
        checks.due("the next", x.has(0, 5), 10);
        checks.due("erase(1)", x.erase(1), 1);
        checks.due("told(0)", x.told(0), 54);
    }

    private void eraseBlocksBeforeEachWrite() {
        checks.sentence("ERASE: one after the other, their blocks (this before each write)");
        int[] untaken = {42 + 7, 42 + 7 + 2, 42 + 7 + 2 + 1, 42 + 7 + 2 + 1};
        for (int power = 0; power <= 3; power++) {
            String told = "with power for " + power + ": ";
            RecordSystem x = someFiles();
            checks.due("told(0)", x.told(0), 42);
            x.power(power);
            checks.due(told + "erase(0)", x.erase(0), power < 3 ? -9 : 3);
            checks.due(told + "told(0)", x.told(0), untaken[power]);
            checks.due(told + "told(2)", x.told(2), 27 + power);
            checks.due(told + "told(3)", x.told(3), power);
            checks.due(told + "entry 2", x.disk(2 * 16), power < 1 ? 5 : 229);
            checks.due(told + "entry 30", x.disk(30 * 16), power < 2 ? 5 : 229);
            checks.due(told + "entry 31", x.disk(31 * 16), power < 3 ? 5 : 229);
        }
    }

    private void eraseReadOnly() {
        checks.sentence("ERASE: READ ONLY (-3), and nothing is done, if one of them is read only.");
        for (int entry : new int[] {2, 30, 31}) {
            checks.due("erase(0), read only " + entry, readOnly(entry).erase(0), -3);
            checks.changesNothing("erase(0)", () -> readOnly(entry), x -> x.erase(0));
            RecordSystem y = readOnly(entry);
            y.power(0);
            checks.due("erase(0), read only " + entry + " and no power", y.erase(0), -3);
        }
        for (int entry : new int[] {0, 3, 4}) {
            checks.due("erase(0), read only " + entry + ", which doesn't fit", readOnly(entry).erase(0), 3);
        }
        checks.due("erase(2): one more fits", readOnly(4).erase(2), -3);
    }

    private static RecordSystem readOnly(int entry) {
        RecordSystem x = someFiles();
        Disks.readOnly(x, entry);
        return x;
    }

    private void renameAllThatFit() {
        checks.sentence("NAME: all entries that fit get the name of another control. Answers how many");
        RecordSystem x = someFiles();
        checks.due("rename(1, 0), none fits", x.rename(1, 0), -1);
        checks.due("told(3)", x.told(3), 0);
        checks.due("rename(0, 1), of any stretch", x.rename(0, 1), 3);
        checks.due("told(3)", x.told(3), 3);
        for (int entry : new int[] {2, 3, 4, 30, 31}) {
            checks.due("name of entry " + entry, x.disk(16 * entry + 1), entry == 3 || entry == 4 ? 'A' : 'B');
        }
        checks.due("rename(0, 1) again", x.rename(0, 1), -1);
        checks.due("rename(1, 1), to the same name", x.rename(1, 1), 3);
        checks.due("told(3)", x.told(3), 6);
        renamePower();
    }

    private void renamePower() {
        for (int power = 0; power <= 3; power++) {
            String told = "with power for " + power + ": ";
            RecordSystem x = someFiles();
            x.power(power);
            checks.due(told + "rename(0, 1)", x.rename(0, 1), power < 3 ? -9 : 3);
            checks.due(told + "entry 2", x.disk(2 * 16 + 1), power < 1 ? 'A' : 'B');
            checks.due(told + "entry 30", x.disk(30 * 16 + 1), power < 2 ? 'A' : 'B');
            checks.due(told + "entry 31", x.disk(31 * 16 + 1), power < 3 ? 'A' : 'B');
        }
    }

    private void renameAsNamesAreBefore() {
        checks.sentence("NAME: (as names are before)");
        RecordSystem x = someFiles();
        checks.due("rename(2, 0): what is renamed still fits", x.rename(2, 0), 4);
        checks.due("told(3): each one was written once", x.told(3), 4);
        checks.due("entry 4", x.disk(4 * 16 + 2), ' ');
        x.name(1, Disks.name("A?????"));
        checks.due("rename(0, 2)", x.rename(0, 2), 4);
        checks.due("told(3)", x.told(3), 8);
        checks.due("search(0, 0)", x.search(0, 0), -1);
    }

    private void renameA63AsItIs() {
        checks.sentence("NAME: (a 63 as it is)");
        RecordSystem x = someFiles();
        checks.due("rename(0, 2)", x.rename(0, 2), 3);
        checks.same("entry 2", Disks.bytes(x, 2), "5 65 63 63 63 63 63 0 28 8 9 10 11 12 13 14");
        checks.due("rename(0, 2): a 63 of an entry fits no blank", x.rename(0, 2), -1);
    }

    private void renameSevenBits() {
        checks.sentence("NAME: get the name of another control; bit 7 of byte 5 stays");
        RecordSystem x = Disks.wanting("ABCDEF", "\u00e1\u00e2\u00e3\u00e4\u00e5\u00e6");
        Disks.entry(x, 0, 0, "\u00c1\u00c2\u00c3\u00c4E\u00c6", 9, 255, 1, 2, 3, 4, 5, 6, 255);
        checks.due("rename(0, 1)", x.rename(0, 1), 1);
        checks.same("the entry", Disks.bytes(x, 0), "0 97 98 99 100 101 102 9 255 1 2 3 4 5 6 255");
        checks.due("the byte behind", x.disk(16), 229);
    }

    private void renameReadOnly() {
        checks.sentence("NAME: -3 as erase.");
        for (int entry : new int[] {2, 30, 31}) {
            checks.due("rename(0, 1), read only " + entry, readOnly(entry).rename(0, 1), -3);
            checks.changesNothing("rename(0, 1)", () -> readOnly(entry), x -> x.rename(0, 1));
            RecordSystem y = readOnly(entry);
            y.power(0);
            checks.due("rename(0, 1), read only " + entry + " and no power", y.rename(0, 1), -3);
        }
        for (int entry : new int[] {0, 3, 4}) {
            checks.due("rename(0, 1), read only " + entry + ", which doesn't fit", readOnly(entry).rename(0, 1), 3);
        }
        checks.due("rename(0, 2): entry 4 fits the second control alone", readOnly(4).rename(0, 2), 3);
    }

    private void guardAllThatFit() {
        checks.sentence("GUARD: all that fit become read only, or not. Answers how many.");
        RecordSystem x = someFiles();
        checks.due("guard(1, true), none fits", x.guard(1, true), -1);
        checks.due("guard(1, false), none fits", x.guard(1, false), -1);
        checks.due("told(3)", x.told(3), 0);
        checks.due("guard(0, true), of any stretch", x.guard(0, true), 3);
        checks.due("told(3)", x.told(3), 3);
        for (int entry : new int[] {2, 3, 4, 30, 31}) {
            checks.due("byte 5 of entry " + entry, x.disk(16 * entry + 5), entry == 3 || entry == 4 ? 32 : 160);
        }
        for (int power = 0; power <= 3; power++) {
            String told = "with power for " + power + ": ";
            RecordSystem y = someFiles();
            y.power(power);
            checks.due(told + "guard(0, true)", y.guard(0, true), power < 3 ? -9 : 3);
            checks.due(told + "entry 2", y.disk(2 * 16 + 5), power < 1 ? 32 : 160);
            checks.due(told + "entry 30", y.disk(30 * 16 + 5), power < 2 ? 32 : 160);
            checks.due(told + "entry 31", y.disk(31 * 16 + 5), power < 3 ? 32 : 160);
        }
    }

    private void guardBothWays() {
        checks.sentence("GUARD: become read only, or not");
        RecordSystem x = Disks.wanting("ABCDEF");
        Disks.entry(x, 0, 0, "\u00c1\u00c2\u00c3\u00c4E\u00c6", 9, 255, 1, 2, 3, 4, 5, 6, 255);
        String guarded = "0 193 194 195 196 197 198 9 255 1 2 3 4 5 6 255";
        String unguarded = "0 193 194 195 196 69 198 9 255 1 2 3 4 5 6 255";
        checks.due("guard(0, false) of one that isn't", x.guard(0, false), 1);
        checks.same("the entry", Disks.bytes(x, 0), unguarded);
        checks.due("guard(0, true)", x.guard(0, true), 1);
        checks.same("the entry", Disks.bytes(x, 0), guarded);
        checks.due("guard(0, true) of one that is", x.guard(0, true), 1);
        checks.same("the entry", Disks.bytes(x, 0), guarded);
        checks.due("guard(0, false)", x.guard(0, false), 1);
        checks.same("the entry", Disks.bytes(x, 0), unguarded);
        checks.due("told(3)", x.told(3), 4);
    }
}
