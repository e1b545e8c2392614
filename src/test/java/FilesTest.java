/** Promises 4 (name), 5 (open), 6 (make), 7 (close). */
public final class FilesTest {
    private static final String CLOSED = "0 0 0 0 0 0 0 0 0 0 0";
    private static final String EMPTY = "1 0 0 0 0 0 0 0 0 0 0";

    public static void main(String[] args) {
        Checks checks = new Checks();
        nameTakesSevenBits(checks);
        nameCloses(checks);
        nameFitsAny(checks);
        openFindsTheFirstOfStretchNought(checks);
        openShowsBytesAsTheyAre(checks);
        openFailsAndCloses(checks);
        openAgainBeginsAnew(checks);
        makeWritesAnEntry(checks);
        makeTakesTheFirstFree(checks);
        makeFullLeavesTheControl(checks);
        makeWithoutPower(checks);
        closeWritesCountAndBlocks(checks);
        closeChoosesByStretch(checks);
        closeFindsNothing(checks);
        closeWithoutPower(checks);
        checks.finish();
    }

    private static void nameTakesSevenBits(Checks checks) {
        RecordSystem x = new RecordSystem();
        x.name(2, 0xfedc_86c5_84c3_02c1L);
        x.make(2);
        checks.same("the entry", Disks.bytes(x, 0), "0 65 2 67 4 69 6 0 0 0 0 0 0 0 0 0");
        x.name(3, -1L);
        x.make(3);
        checks.same("the entry of -1", Disks.bytes(x, 1), "0 127 127 127 127 127 127 0 0 0 0 0 0 0 0 0");
    }

    private static void nameCloses(Checks checks) {
        RecordSystem x = new RecordSystem();
        x.make(0);
        x.make(1);
        x.name(0, Disks.name(Disks.BLANK));
        checks.same("control 0", Disks.control(x, 0), CLOSED);
        checks.same("control 1", Disks.control(x, 1), EMPTY);
        checks.due("told(3): a name writes nothing", x.told(3), 2);
    }

    private static void nameFitsAny(Checks checks) {
        RecordSystem x = Disks.wanting("?BC?E?", "??????", "ABCDEF", "\u00bfBCDEF");
        Disks.entry(x, 3, 0, "ABCDEX", 0, 0);
        Disks.entry(x, 4, 0, "XBCDEF", 0, 0);
        Disks.entry(x, 5, 0, "?BCDEF", 0, 0);
        Disks.entry(x, 6, 0, "ABCDXF", 0, 0);
        Disks.entry(x, 7, 0, "\u00c1\u00c2\u00c3\u00c4\u00c5\u00c6", 0, 0);
        checks.due("open(0)", x.open(0), 3);
        checks.due("search(0, 4)", x.search(0, 4), 4);
        checks.due("search(0, 6) skips another letter", x.search(0, 6), 7);
        checks.due("open(1)", x.open(1), 3);
        checks.due("search(1, 6)", x.search(1, 6), 6);
        checks.due("open(2) by the lowest seven bits; an entry's 63 is no wanted one", x.open(2), 7);
        checks.due("open(3): a 63 by its lowest seven bits", x.open(3), 4);
    }

    private static void openFindsTheFirstOfStretchNought(Checks checks) {
        RecordSystem x = new RecordSystem();
        Disks.entry(x, 0, 0, Disks.BLANK, 1, 3, 8);
        Disks.entry(x, 1, 2, Disks.BLANK, 0, 3, 9);
        Disks.entry(x, 2, 16, Disks.BLANK, 0, 3, 10);
        Disks.entry(x, 30, 0, Disks.BLANK, 0, 5, 11, 0, 12);
        Disks.entry(x, 31, 0, Disks.BLANK, 0, 6, 13);
        checks.due("open(3)", x.open(3), 30);
        checks.same("control 3", Disks.control(x, 3), "1 0 5 0 11 0 12 0 0 0 0");
        checks.due("told(3): an open writes nothing", x.told(3), 0);
        checks.due("told(0): an open takes nothing", x.told(0), 56);
        x.spoil(31 * 16, 5);
        x.login(5);
        checks.due("open(3) of user 5", x.open(3), 31);
    }

    private static void openShowsBytesAsTheyAre(Checks checks) {
        RecordSystem x = new RecordSystem();
        Disks.entry(x, 0, 0, Disks.BLANK, 0, 255, 64, 255, 0, 1, 128, 63, 200);
        x.open(0);
        checks.same("control 0", Disks.control(x, 0), "1 0 255 0 64 255 0 1 128 63 200");
    }

    private static void openFailsAndCloses(Checks checks) {
        RecordSystem x = new RecordSystem();
        x.make(0);
        x.spoil(0, Disks.FREE);
        checks.due("open(0) of an entry gone", x.open(0), -1);
        checks.same("control 0", Disks.control(x, 0), CLOSED);
        checks.due("read(0)", x.read(0), -1);
        Disks.entry(x, 0, 0, Disks.BLANK, 2, 3, 8);
        checks.due("open(0) with stretch 2 alone", x.open(0), -1);
    }

    private static void openAgainBeginsAnew(Checks checks) {
        RecordSystem x = new RecordSystem();
        x.make(0);
        x.write(0);
        checks.due("open(0) without a close", x.open(0), 0);
        checks.same("control 0", Disks.control(x, 0), EMPTY);
        checks.due("told(0): its block stays taken", x.told(0), 55);
        checks.due("told(3): nothing was closed", x.told(3), 2);
    }

    private static void makeWritesAnEntry(Checks checks) {
        RecordSystem x = Disks.wanting("A?C 12");
        for (int i = 0; i < 16; i++) {
            x.spoil(i, 231);
        }
        x.login(9);
        checks.due("make(0)", x.make(0), 0);
        checks.same("all bytes of the entry", Disks.bytes(x, 0), "9 65 63 67 32 49 50 0 0 0 0 0 0 0 0 0");
        checks.same("control 0", Disks.control(x, 0), EMPTY);
        checks.due("told(3)", x.told(3), 1);
        x.write(0);
        checks.due("make(0) of the same name", x.make(0), 1);
        checks.same("control 0 begins anew", Disks.control(x, 0), EMPTY);
        checks.due("a file made is not read only", x.write(0), 0);
    }

    private static void makeTakesTheFirstFree(Checks checks) {
        RecordSystem x = new RecordSystem();
        Disks.entry(x, 0, 0, "TAKEN ", 0, 0);
        Disks.entry(x, 1, 15, "TAKEN ", 0, 0);
        Disks.entry(x, 2, 16, "FREE  ", 0, 0);
        checks.due("make(0): user 16 counts as free", x.make(0), 2);
        x.spoil(16, 255);
        checks.due("make(1): user 255 counts as free", x.make(1), 1);
        checks.due("make(1)", x.make(1), 3);
        readOnlyIsForgotten(checks);
    }

    private static void readOnlyIsForgotten(Checks checks) {
        RecordSystem x = new RecordSystem();
        Disks.entry(x, 0, 0, Disks.BLANK, 0, 0);
        Disks.readOnly(x, 0);
        x.open(0);
        checks.due("write(0), read only", x.write(0), -3);
        x.make(0);
        checks.due("write(0) behind a make", x.write(0), 0);
    }

    private static RecordSystem fullDirectory() {
        RecordSystem x = new RecordSystem();
        for (int i = 0; i < 32; i++) {
            x.make(0);
        }
        x.write(0);
        return x;
    }

    private static void makeFullLeavesTheControl(Checks checks) {
        RecordSystem x = fullDirectory();
        checks.due("make(0) with none free", x.make(0), -2);
        checks.due("make(1) with none free", x.make(1), -2);
        checks.changesNothing("make(0), make(1)", FilesTest::fullDirectory, y -> {
            y.make(0);
            y.make(1);
        });
    }

    private static void makeWithoutPower(Checks checks) {
        RecordSystem x = new RecordSystem();
        x.power(0);
        checks.due("make(0)", x.make(0), -9);
        checks.same("control 0 is open all the same", Disks.control(x, 0), EMPTY);
        checks.due("disk(0)", x.disk(0), Disks.FREE);
        checks.due("disk(1)", x.disk(1), 0);
        checks.due("told(3)", x.told(3), 0);
    }

    private static void closeWritesCountAndBlocks(Checks checks) {
        RecordSystem x = Disks.wanting("ABCDEF");
        Disks.entry(x, 4, 0, "\u00c1BCD\u00c5F", 0, 200, 64 + 9, 0, 255);
        x.open(0);
        x.spoil(4 * 16 + 8, 7);
        x.spoil(4 * 16 + 9, 8);
        x.spoil(4 * 16 + 15, 8);
        checks.due("close(0)", x.close(0), 4);
        checks.same("the entry", Disks.bytes(x, 4), "0 193 66 67 68 197 70 0 200 73 0 255 0 0 0 0");
        checks.same("control 0", Disks.control(x, 0), CLOSED);
        checks.due("told(3)", x.told(3), 1);
        checks.due("close(0) again", x.close(0), -1);
        checks.due("told(3)", x.told(3), 1);
    }

    private static void closeChoosesByStretch(Checks checks) {
        RecordSystem x = Disks.wanting("??????");
        Disks.entry(x, 0, 0, "OTHER1", 2, 0);
        Disks.entry(x, 1, 3, "OTHER2", 1, 0);
        Disks.entry(x, 2, 0, "MINE  ", 1, 0);
        Disks.entry(x, 3, 0, "MINE  ", 0, 0);
        x.open(0);
        checks.due("at(0, 28, true)", x.at(0, 28, true), 0);
        checks.due("close(0) of stretch 1", x.close(0), 2);
        checks.same("the entry", Disks.bytes(x, 2), "0 77 73 78 69 32 32 1 1 8 0 0 0 0 0 0");
        checks.due("entry 0's count", x.disk(8), 0);
    }

    private static void closeFindsNothing(Checks checks) {
        RecordSystem x = new RecordSystem();
        x.make(0);
        x.spoil(7, 1);
        checks.due("close(0), its stretch gone", x.close(0), -1);
        checks.same("control 0", Disks.control(x, 0), CLOSED);
        checks.due("told(3)", x.told(3), 1);
        x.make(1);
        x.spoil(16, 3);
        x.power(0);
        checks.due("close(1), its entry gone, and no power", x.close(1), -1);
    }

    private static void closeWithoutPower(Checks checks) {
        RecordSystem x = new RecordSystem();
        x.make(0);
        x.write(0);
        x.power(0);
        checks.due("close(0)", x.close(0), -9);
        checks.same("control 0", Disks.control(x, 0), CLOSED);
        checks.due("the entry's count", x.disk(8), 0);
        checks.due("told(0)", x.told(0), 55);
    }
}
