/** Promises 8 (erase), 9 (rename), 10 (guard), 11 (search), 15 (size). */
public final class EntriesTest {
    public static void main(String[] args) {
        Checks checks = new Checks();
        eraseFreesAllThatFit(checks);
        eraseGivesBlocksBack(checks);
        eraseKeepsReadOnly(checks);
        eraseStopsWhenPowerGoes(checks);
        eraseLeavesControlsOpen(checks);
        renameNamesAllThatFit(checks);
        renameTakesTheWantedNameAsItIs(checks);
        renameKeepsReadOnly(checks);
        renameStopsWhenPowerGoes(checks);
        guardSetsAndClearsTheBit(checks);
        guardLeavesOpenControls(checks);
        guardStopsWhenPowerGoes(checks);
        nothingFits(checks);
        searchGoesOnFromANumber(checks);
        sizeIsTheGreatestEnd(checks);
        firstAndLastEntry(checks);
        recordBehindTheDirectory(checks);
        noFreeEntryBehindTheDirectory(checks);
        onlySevenBlocksAnEntry(checks);
        checks.finish();
    }

    private static RecordSystem threeFiles() {
        RecordSystem x = Disks.wanting("FILE? ", "FILE1 ", "NEW?  ", "??????");
        Disks.entry(x, 1, 0, "FILE1 ", 0, 28, 8, 9, 10);
        Disks.entry(x, 2, 0, "FILE1 ", 1, 3, 11);
        Disks.entry(x, 3, 4, "FILE1 ", 0, 3, 12);
        Disks.entry(x, 4, 0, "FILE2 ", 200, 3, 13);
        Disks.entry(x, 5, 0, "OTHER ", 0, 3, 14);
        x.login(0);
        return x;
    }

    private static void eraseFreesAllThatFit(Checks checks) {
        RecordSystem x = threeFiles();
        checks.due("erase(0)", x.erase(0), 3);
        checks.same("entry 1", Disks.bytes(x, 1), "229 70 73 76 69 49 32 0 28 8 9 10 0 0 0 0");
        checks.same("entry 2", Disks.bytes(x, 2), "229 70 73 76 69 49 32 1 3 11 0 0 0 0 0 0");
        checks.due("entry 3, another user's", x.disk(48), 4);
        checks.due("entry 4, of stretch 200", x.disk(64), 229);
        checks.due("entry 5, of another name", x.disk(80), 0);
        checks.due("told(3)", x.told(3), 3);
        checks.due("told(0)", x.told(0), 54);
        checks.due("told(2)", x.told(2), 30);
    }

    private static void eraseGivesBlocksBack(Checks checks) {
        RecordSystem x = Disks.wanting("A     ", "B     ");
        Disks.entry(x, 0, 0, "A     ", 0, 0, 8, 64 + 9, 3, 64, 255, 0, 20);
        Disks.entry(x, 1, 0, "B     ", 0, 0, 20, 21);
        checks.due("login(0)", x.login(0), 51);
        checks.due("erase(0)", x.erase(0), 1);
        checks.due("told(0): a block that another entry tells, too, is given back", x.told(0), 55);
        x.make(0);
        checks.due("write(0)", x.write(0), 0);
        checks.due("has(0, 4): the least given back, not 0 or 3", x.has(0, 4), 8);
        checks.due("at(0, 4, true)", x.at(0, 4, true), 0);
        checks.due("has(0, 5)", x.has(0, 5), 9);
        checks.due("login(0)", x.login(0), 54);
    }

    private static RecordSystem lastReadOnly() {
        RecordSystem x = threeFiles();
        Disks.readOnly(x, 4);
        Disks.readOnly(x, 3);
        Disks.readOnly(x, 5);
        return x;
    }

    private static void eraseKeepsReadOnly(Checks checks) {
        RecordSystem x = lastReadOnly();
        checks.due("erase(0), one of them read only", x.erase(0), -3);
        checks.changesNothing("erase(0)", EntriesTest::lastReadOnly, y -> y.erase(0));
        x.power(0);
        checks.due("erase(0), read only and powerless", x.erase(0), -3);
        x.login(0);
        checks.due("erase(1), others read only", x.erase(1), 2);
    }

    private static void eraseStopsWhenPowerGoes(Checks checks) {
        RecordSystem x = threeFiles();
        x.power(1);
        checks.due("erase(0)", x.erase(0), -9);
        checks.due("entry 1 is free", x.disk(16), 229);
        checks.due("entry 2 is not", x.disk(32), 0);
        checks.due("entry 4 is not", x.disk(64), 0);
        checks.due("told(0): blocks of entries 1 and 2 are given back, not entry 4's", x.told(0), 49 + 4);
        checks.due("told(3)", x.told(3), 1);
    }

    private static void eraseLeavesControlsOpen(Checks checks) {
        RecordSystem x = threeFiles();
        x.open(1);
        x.erase(1);
        checks.due("has(1, 0)", x.has(1, 0), 1);
        checks.due("read(1) of blocks that were given back", x.read(1), 0);
        checks.due("close(1)", x.close(1), -1);
    }

    private static void renameNamesAllThatFit(Checks checks) {
        RecordSystem x = threeFiles();
        x.name(2, Disks.name("FILE9 "));
        checks.due("rename(0, 2)", x.rename(0, 2), 3);
        checks.same("entry 1", Disks.bytes(x, 1), "0 70 73 76 69 57 32 0 28 8 9 10 0 0 0 0");
        checks.same("entry 2", Disks.bytes(x, 2), "0 70 73 76 69 57 32 1 3 11 0 0 0 0 0 0");
        checks.same("entry 3", Disks.bytes(x, 3), "4 70 73 76 69 49 32 0 3 12 0 0 0 0 0 0");
        checks.same("entry 4", Disks.bytes(x, 4), "0 70 73 76 69 57 32 200 3 13 0 0 0 0 0 0");
        checks.same("entry 5", Disks.bytes(x, 5), "0 79 84 72 69 82 32 0 3 14 0 0 0 0 0 0");
        checks.due("told(3)", x.told(3), 3);
        checks.due("told(0)", x.told(0), 49);
        checks.due("search(1, 0): wanted names stay", x.search(1, 0), -1);
        checks.due("search(0, 0)", x.search(0, 0), 1);
    }

    private static void renameTakesTheWantedNameAsItIs(Checks checks) {
        RecordSystem x = threeFiles();
        x.spoil(17, 128 + 70);
        x.spoil(22, 128 + 32);
        checks.due("rename(1, 2)", x.rename(1, 2), 2);
        checks.same("entry 1", Disks.bytes(x, 1), "0 78 69 87 63 32 32 0 28 8 9 10 0 0 0 0");
        checks.due("rename(3, 3)", x.rename(3, 3), 4);
        checks.same("entry 5", Disks.bytes(x, 5), "0 63 63 63 63 63 63 0 3 14 0 0 0 0 0 0");
    }

    private static void renameKeepsReadOnly(Checks checks) {
        RecordSystem x = lastReadOnly();
        checks.due("rename(0, 2), one of them read only", x.rename(0, 2), -3);
        checks.changesNothing("rename(0, 2)", EntriesTest::lastReadOnly, y -> y.rename(0, 2));
        checks.due("rename(1, 2), another read only", x.rename(1, 2), 2);
        checks.due("rename(2, 1): the second one's fits don't matter", x.rename(2, 1), 2);
    }

    private static void renameStopsWhenPowerGoes(Checks checks) {
        RecordSystem x = threeFiles();
        x.power(2);
        checks.due("rename(0, 2)", x.rename(0, 2), -9);
        checks.due("entry 2 has the name", x.disk(33), 'N');
        checks.due("entry 4 hasn't", x.disk(65), 'F');
        checks.due("told(3)", x.told(3), 2);
    }

    private static void guardSetsAndClearsTheBit(Checks checks) {
        RecordSystem x = threeFiles();
        checks.due("guard(0, true)", x.guard(0, true), 3);
        checks.same("entry 1", Disks.bytes(x, 1), "0 70 73 76 69 177 32 0 28 8 9 10 0 0 0 0");
        checks.due("entry 2", x.disk(37), 177);
        checks.due("entry 3", x.disk(53), 49);
        checks.due("entry 4", x.disk(69), 178);
        checks.due("entry 5", x.disk(85), 82);
        checks.due("search(1, 0): a name is told by seven bits", x.search(1, 0), 1);
        checks.due("erase(1)", x.erase(1), -3);
        checks.due("guard(0, true) again", x.guard(0, true), 3);
        checks.due("told(3)", x.told(3), 6);
        checks.due("guard(1, false)", x.guard(1, false), 2);
        checks.due("entry 1", x.disk(21), 49);
        checks.due("entry 4", x.disk(69), 178);
        checks.due("erase(1)", x.erase(1), 2);
    }

    private static void guardLeavesOpenControls(Checks checks) {
        RecordSystem x = threeFiles();
        x.open(1);
        x.guard(1, true);
        checks.due("write(1) of a file opened before", x.write(1), 0);
        x.close(1);
        checks.due("close keeps the bit", x.disk(21), 177);
        x.open(1);
        checks.due("write(1) of a file opened then", x.write(1), -3);
        x.guard(1, false);
        checks.due("write(1): as it was opened", x.write(1), -3);
        checks.due("read(1)", x.read(1), 0);
    }

    private static void guardStopsWhenPowerGoes(Checks checks) {
        RecordSystem x = threeFiles();
        x.power(1);
        checks.due("guard(0, true)", x.guard(0, true), -9);
        checks.due("entry 1", x.disk(21), 177);
        checks.due("entry 2", x.disk(37), 49);
        checks.due("told(3)", x.told(3), 1);
    }

    private static void nothingFits(Checks checks) {
        RecordSystem x = threeFiles();
        x.name(1, Disks.name("NOFILE"));
        x.power(0);
        checks.due("erase(1)", x.erase(1), -1);
        checks.due("rename(1, 0)", x.rename(1, 0), -1);
        checks.due("guard(1, true)", x.guard(1, true), -1);
        checks.due("search(1, 0)", x.search(1, 0), -1);
        checks.due("size(1)", x.size(1), 0);
    }

    private static void searchGoesOnFromANumber(Checks checks) {
        RecordSystem x = threeFiles();
        Disks.entry(x, 31, 0, "FILE1 ", 9, 3);
        checks.due("search(0, 0)", x.search(0, 0), 1);
        checks.due("search(0, 1)", x.search(0, 1), 1);
        checks.due("search(0, 2)", x.search(0, 2), 2);
        checks.due("search(0, 3)", x.search(0, 3), 4);
        checks.due("search(0, 5)", x.search(0, 5), 31);
        checks.due("search(0, 31)", x.search(0, 31), 31);
        x.spoil(31 * 16, 16);
        checks.due("search(0, 31)", x.search(0, 31), -1);
        x.login(4);
        checks.due("search(3, 0) as user 4", x.search(3, 0), 3);
        checks.due("search(3, 4) as user 4", x.search(3, 4), -1);
    }

    private static void sizeIsTheGreatestEnd(Checks checks) {
        RecordSystem x = threeFiles();
        checks.due("size(1)", x.size(1), 31);
        checks.due("size(0) with stretch 200", x.size(0), 28 * 200 + 3);
        checks.due("size(3)", x.size(3), 5603);
        Disks.entry(x, 6, 0, "FILE1 ", 0, 255);
        checks.due("size(1) with a count of 255", x.size(1), 255);
        Disks.entry(x, 6, 0, "FILE1 ", 255, 255);
        checks.due("size(1) with stretch 255", x.size(1), 28 * 255 + 255);
        x.login(4);
        checks.due("size(1) as user 4", x.size(1), 3);
        x.open(1);
        x.at(1, 20, true);
        checks.due("size(1) before the close", x.size(1), 3);
        x.close(1);
        checks.due("size(1) behind the close", x.size(1), 21);
    }

    private static void firstAndLastEntry(Checks checks) {
        for (int entry = 0; entry < 32; entry += 31) {
            RecordSystem x = Disks.wanting("A     ", "B     ");
            Disks.entry(x, entry, 0, "A     ", 0, 5, 8);
            checks.due("login(0)", x.login(0), 55);
            checks.due("search(0, 0)", x.search(0, 0), entry);
            checks.due("size(0)", x.size(0), 5);
            checks.due("guard(0, true)", x.guard(0, true), 1);
            checks.due("erase(0), read only", x.erase(0), -3);
            checks.due("rename(0, 1), read only", x.rename(0, 1), -3);
            checks.due("guard(0, false)", x.guard(0, false), 1);
            checks.due("rename(0, 1)", x.rename(0, 1), 1);
            checks.due("open(1)", x.open(1), entry);
            checks.due("close(1)", x.close(1), entry);
            checks.due("erase(1)", x.erase(1), 1);
            checks.due("told(0)", x.told(0), 56);
        }
    }

    private static void recordBehindTheDirectory(Checks checks) {
        RecordSystem x = Disks.wanting("A     ", "B     ");
        Disks.entry(x, 32, 0, "A     ", 0, 5, 20, 20);
        Disks.readOnly(x, 32);
        String before = Disks.bytes(x, 32);
        checks.due("login(0)", x.login(0), 56);
        checks.due("search(0, 31)", x.search(0, 31), -1);
        checks.due("open(0)", x.open(0), -1);
        checks.due("size(0)", x.size(0), 0);
        checks.due("erase(0)", x.erase(0), -1);
        checks.due("rename(0, 1)", x.rename(0, 1), -1);
        checks.due("guard(0, false)", x.guard(0, false), -1);
        x.spoil(32 * 16 + 5, 32);
        checks.due("erase(0)", x.erase(0), -1);
        checks.due("rename(0, 1)", x.rename(0, 1), -1);
        checks.due("told(1)", x.told(1), 0);
        checks.due("told(2)", x.told(2), 32);
        Disks.readOnly(x, 32);
        checks.same("the record", Disks.bytes(x, 32), before);
    }

    private static void noFreeEntryBehindTheDirectory(Checks checks) {
        RecordSystem x = new RecordSystem();
        x.spoil(512, Disks.FREE);
        checks.due("told(2)", x.told(2), 32);
        for (int entry = 0; entry < 32; entry++) {
            x.make(0);
        }
        checks.due("make(0)", x.make(0), -2);
        checks.due("at(0, 28, true)", x.at(0, 28, true), -2);
        checks.due("told(2)", x.told(2), 0);
    }

    private static void onlySevenBlocksAnEntry(Checks checks) {
        RecordSystem x = Disks.wanting("A     ");
        Disks.entry(x, 0, 0, "A     ", 0, 0);
        Disks.entry(x, 1, 9, "B     ", 0, 0, 9);
        checks.due("told(1): the next entry's user is no block", x.told(1), 0);
        checks.due("login(0)", x.login(0), 55);
        checks.due("erase(0)", x.erase(0), 1);
        checks.due("told(0): the next entry's user is no block", x.told(0), 55);
    }
}
