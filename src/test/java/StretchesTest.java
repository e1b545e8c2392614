/** Promises 12 to 14 where they go to another stretch. */
public final class StretchesTest {
    public static void main(String[] args) {
        Checks checks = new Checks();
        stretchIsKeptOnTheWay(checks);
        readEndsBehindTheLastStretch(checks);
        readFindsTheNextStretch(checks);
        writeMakesTheNextStretch(checks);
        atGoesBackAndForth(checks);
        beyondStretch15(checks);
        ownEntryGone(checks);
        noEntryFree(checks);
        readOnlyAsOpened(checks);
        readOnlyMakesTheStretchFirst(checks);
        powerGoesAtTheClose(checks);
        powerGoesAtTheNewEntry(checks);
        powerGoesAtTheRecord(checks);
        entryIsMadeWithTheWantedName(checks);
        checks.finish();
    }

    private static RecordSystem fullStretch() {
        RecordSystem x = new RecordSystem();
        Disks.entry(x, 0, 0, Disks.BLANK, 0, 28, 8, 9, 10, 11, 12, 13, 14);
        x.login(0);
        x.open(0);
        x.at(0, 27, false);
        x.read(0);
        return x;
    }

    private static void stretchIsKeptOnTheWay(Checks checks) {
        RecordSystem x = new RecordSystem();
        x.make(0);
        checks.due("at(0, 2, true)", x.at(0, 2, true), 0);
        checks.due("at(0, 58, true)", x.at(0, 58, true), 0);
        checks.same("control 0", Disks.control(x, 0), "1 2 3 2 9 0 0 0 0 0 0");
        checks.same("entry 0", Disks.bytes(x, 0), "0 32 32 32 32 32 32 0 3 8 0 0 0 0 0 0");
        checks.same("entry 1", Disks.bytes(x, 1), "0 32 32 32 32 32 32 2 0 0 0 0 0 0 0 0");
        checks.due("told(3)", x.told(3), 5);
        checks.due("at(0, 60, true), the same stretch", x.at(0, 60, true), 0);
        checks.due("told(3)", x.told(3), 6);
        checks.due("close(0)", x.close(0), 1);
        checks.same("entry 1", Disks.bytes(x, 1), "0 32 32 32 32 32 32 2 5 9 10 0 0 0 0 0");
    }

    private static void readEndsBehindTheLastStretch(Checks checks) {
        RecordSystem x = fullStretch();
        checks.same("control 0", Disks.control(x, 0), "1 0 28 28 8 9 10 11 12 13 14");
        x.spoil(8, 1);
        checks.due("read(0)", x.read(0), -1);
        checks.same("control 0 stays", Disks.control(x, 0), "1 0 28 28 8 9 10 11 12 13 14");
        checks.due("its entry was written", x.disk(8), 28);
        checks.due("told(3)", x.told(3), 1);
        checks.due("told(2)", x.told(2), 31);
        checks.due("at(0, 100, false)", x.at(0, 100, false), -1);
        checks.due("told(3)", x.told(3), 2);
        checks.due("place", x.has(0, 3), 28);
    }

    private static void readFindsTheNextStretch(Checks checks) {
        RecordSystem x = fullStretch();
        Disks.entry(x, 9, 0, Disks.BLANK, 1, 1, 40, 0, 41);
        Disks.entry(x, 10, 0, Disks.BLANK, 1, 2, 42);
        x.spoil(40 * 64, 88);
        checks.due("read(0)", x.read(0), 0);
        checks.same("control 0", Disks.control(x, 0), "1 1 1 1 40 0 41 0 0 0 0");
        checks.due("its record", x.buffer(0), 88);
        checks.due("read(0)", x.read(0), -1);
        emptyNextStretch(checks);
    }

    private static void emptyNextStretch(Checks checks) {
        RecordSystem x = fullStretch();
        Disks.entry(x, 9, 0, Disks.BLANK, 1, 0, 40);
        checks.due("read(0) of an empty stretch", x.read(0), -1);
        checks.same("control 0 has come there", Disks.control(x, 0), "1 1 0 0 40 0 0 0 0 0 0");
    }

    private static void writeMakesTheNextStretch(Checks checks) {
        RecordSystem x = fullStretch();
        Disks.fill(x, 6);
        checks.due("write(0)", x.write(0), 0);
        checks.same("control 0", Disks.control(x, 0), "1 1 1 1 15 0 0 0 0 0 0");
        checks.same("entry 1", Disks.bytes(x, 1), "0 32 32 32 32 32 32 1 0 0 0 0 0 0 0 0");
        checks.due("the record", x.disk(15 * 64 + 15), 6);
        checks.due("told(3)", x.told(3), 3);
        RecordSystem y = fullStretch();
        Disks.entry(y, 9, 0, Disks.BLANK, 1, 5, 40);
        checks.due("write(0) into a stretch that is there", y.write(0), 0);
        checks.same("control 0", Disks.control(y, 0), "1 1 5 1 40 0 0 0 0 0 0");
        checks.due("told(3)", y.told(3), 2);
        checks.due("told(2)", y.told(2), 30);
    }

    private static void atGoesBackAndForth(Checks checks) {
        RecordSystem x = fullStretch();
        checks.due("at(0, 447, true), the last record", x.at(0, 447, true), 0);
        checks.same("control 0", Disks.control(x, 0), "1 15 28 27 0 0 0 0 0 0 15");
        checks.due("at(0, 5, false)", x.at(0, 5, false), 0);
        checks.same("control 0", Disks.control(x, 0), "1 0 28 5 8 9 10 11 12 13 14");
        checks.due("at(0, 446, false)", x.at(0, 446, false), 0);
        checks.due("at(0, 420, false), no block", x.at(0, 420, false), -1);
        checks.due("place, the stretch being the same", x.has(0, 3), 26);
        checks.due("at(0, 28, false), no such stretch", x.at(0, 28, false), -1);
        checks.due("place", x.has(0, 3), 26);
        checks.due("stretch", x.has(0, 1), 15);
    }

    private static RecordSystem lastPlace() {
        RecordSystem x = fullStretch();
        x.at(0, 447, true);
        x.write(0);
        Disks.entry(x, 20, 0, Disks.BLANK, 16, 3, 40);
        return x;
    }

    private static void beyondStretch15(Checks checks) {
        RecordSystem x = lastPlace();
        checks.due("write(0) at place 28", x.write(0), -2);
        checks.due("read(0) at place 28", x.read(0), -2);
        checks.due("at(0, 448, true)", x.at(0, 448, true), -2);
        checks.due("at(0, 448, false), an entry of stretch 16", x.at(0, 448, false), -2);
        checks.due("at(0, 100000, false)", x.at(0, 100000, false), -2);
        checks.changesNothing("these", StretchesTest::lastPlace, y -> {
            y.write(0);
            y.read(0);
            y.at(0, 448, true);
            y.at(0, 448, false);
            y.at(0, 100000, false);
        });
        x.power(0);
        checks.due("at(0, 448, true) without power", x.at(0, 448, true), -2);
    }

    private static void ownEntryGone(Checks checks) {
        RecordSystem x = fullStretch();
        Disks.entry(x, 1, 0, Disks.BLANK, 1, 5, 40);
        x.spoil(7, 3);
        checks.due("read(0)", x.read(0), -1);
        checks.due("write(0)", x.write(0), -1);
        checks.due("at(0, 28, true)", x.at(0, 28, true), -1);
        checks.same("control 0 stays", Disks.control(x, 0), "1 0 28 28 8 9 10 11 12 13 14");
        checks.due("told(3)", x.told(3), 0);
        checks.due("at(0, 3, true) in its stretch", x.at(0, 3, true), 0);
    }

    private static void noEntryFree(Checks checks) {
        RecordSystem x = fullStretch();
        for (int e = 1; e < 32; e++) {
            x.spoil(16 * e, 1);
        }
        checks.due("write(0)", x.write(0), -2);
        checks.same("control 0 stays", Disks.control(x, 0), "1 0 28 28 8 9 10 11 12 13 14");
        checks.due("told(3): it was closed first", x.told(3), 1);
        checks.due("at(0, 30, true)", x.at(0, 30, true), -2);
        checks.due("at(0, 30, false)", x.at(0, 30, false), -1);
    }

    private static void readOnlyAsOpened(Checks checks) {
        RecordSystem x = fullStretch();
        Disks.entry(x, 1, 0, Disks.BLANK, 1, 5, 40);
        Disks.readOnly(x, 1);
        checks.due("write(0) into a stretch that is read only", x.write(0), 0);
        checks.due("close(0)", x.close(0), 1);
        checks.due("its bit stays", x.disk(16 + 5), 160);
        RecordSystem y = new RecordSystem();
        Disks.entry(y, 0, 0, Disks.BLANK, 0, 5, 40);
        Disks.entry(y, 1, 0, Disks.BLANK, 1, 5, 41);
        Disks.readOnly(y, 0);
        y.open(0);
        checks.due("at(0, 28, true), opened read only", y.at(0, 28, true), -3);
        checks.due("stretch", y.has(0, 1), 1);
        checks.due("told(3)", y.told(3), 1);
    }

    private static void readOnlyMakesTheStretchFirst(Checks checks) {
        RecordSystem x = new RecordSystem();
        Disks.entry(x, 0, 0, Disks.BLANK, 0, 5, 40);
        Disks.readOnly(x, 0);
        x.open(0);
        checks.due("at(0, 60, true)", x.at(0, 60, true), -3);
        checks.same("control 0 has come there", Disks.control(x, 0), "1 2 0 0 0 0 0 0 0 0 0");
        checks.same("entry 1", Disks.bytes(x, 1), "0 32 32 32 32 32 32 2 0 0 0 0 0 0 0 0");
        checks.due("told(3)", x.told(3), 2);
    }

    private static void powerGoesAtTheClose(Checks checks) {
        RecordSystem x = fullStretch();
        Disks.entry(x, 1, 0, Disks.BLANK, 1, 5, 40);
        x.power(0);
        checks.due("read(0)", x.read(0), -9);
        checks.due("write(0)", x.write(0), -9);
        checks.due("at(0, 30, false)", x.at(0, 30, false), -9);
        checks.due("at(0, 90, true)", x.at(0, 90, true), -9);
        checks.same("control 0 stays", Disks.control(x, 0), "1 0 28 28 8 9 10 11 12 13 14");
        x.power(1);
        checks.due("at(0, 30, false) with one write to come", x.at(0, 30, false), 0);
        checks.same("control 0", Disks.control(x, 0), "1 1 5 2 40 0 0 0 0 0 0");
    }

    private static void powerGoesAtTheNewEntry(Checks checks) {
        RecordSystem x = fullStretch();
        x.power(1);
        checks.due("write(0)", x.write(0), -9);
        checks.same("control 0 was changed before the write", Disks.control(x, 0), "1 1 0 0 0 0 0 0 0 0 0");
        checks.due("entry 1 is free", x.disk(16), Disks.FREE);
        checks.due("told(0)", x.told(0), 49);
        checks.due("told(3)", x.told(3), 1);
        checks.due("close(0) finds no entry", x.close(0), -1);
    }

    private static void powerGoesAtTheRecord(Checks checks) {
        RecordSystem x = fullStretch();
        x.power(2);
        checks.due("at(0, 65, true)", x.at(0, 65, true), -9);
        checks.same("control 0, with a block given", Disks.control(x, 0), "1 2 0 0 0 0 15 0 0 0 0");
        checks.due("entry 1 is there", x.disk(16), 0);
        checks.due("told(0)", x.told(0), 48);
        checks.due("told(3)", x.told(3), 2);
    }

    private static void entryIsMadeWithTheWantedName(Checks checks) {
        RecordSystem x = Disks.wanting("A?????");
        Disks.entry(x, 0, 11, "OTHER ", 0, 0);
        Disks.entry(x, 1, 11, "AB\u00c3DEF", 0, 0);
        x.login(11);
        checks.due("open(0)", x.open(0), 1);
        checks.due("at(0, 420, true)", x.at(0, 420, true), 0);
        checks.same("entry 2", Disks.bytes(x, 2), "11 65 63 63 63 63 63 15 0 0 0 0 0 0 0 0");
    }
}
