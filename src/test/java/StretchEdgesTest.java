/** The boundary cases that the document names for GO TO, PUT, GET, READ, WRITE and AT. */
public final class StretchEdgesTest {
    private static final String FULL_STRETCH = "1 0 28 28 8 9 10 11 12 13 14";

    private final Checks checks = new Checks();

    public static void main(String[] args) {
        new StretchEdgesTest().run();
    }

    private void run() {
        stretch15Put();
        stretch15Get();
        stretch16();
        ownStretch();
        placeNoughtWhenCome();
        closedOnTheWay();
        closeFindsNothing();
        firstEntryOfTheStretch();
        readOnlyAsOpened();
        endForReading();
        madeForWriting();
        fullForWriting();
        putReadOnly();
        putWhereABlockIsTold();
        putTheLeast();
        putDiskFull();
        putCount();
        getBelowTheCount();
        getWithoutABlock();
        getToTheBuffer();
        readAtPlace28();
        readOneMore();
        writeAtPlace28();
        writeOneMore();
        atPlaces();
        atPlaceWhenItFails();
        notOpen();
        whatComesFirst();
        checks.finish();
    }

    /** Control 0 has a full stretch 0, in entry 0, and stands at place 28. */
    private static RecordSystem atItsEnd() {
        RecordSystem x = new RecordSystem();
        Disks.entry(x, 0, 0, Disks.BLANK, 0, 28, 8, 9, 10, 11, 12, 13, 14);
        x.login(0);
        x.open(0);
        x.at(0, 27, false);
        x.read(0);
        return x;
    }

    private static RecordSystem inStretch15() {
        RecordSystem x = atItsEnd();
        x.at(0, 447, true);
        x.write(0);
        return x;
    }

    private void stretch15Put() {
        checks.sentence("GO TO a stretch s (0 .. 15): the last one, for writing");
        RecordSystem x = atItsEnd();
        checks.due("at(0, 447, true)", x.at(0, 447, true), 0);
        checks.due("stretch", x.has(0, 1), 15);
        checks.due("byte 7 of its entry", x.disk(16 + 7), 15);
        RecordSystem y = atItsEnd();
        checks.due("at(0, 419, true)", y.at(0, 419, true), 0);
        checks.due("write(0) at place 27 of stretch 14", y.write(0), 0);
        checks.due("write(0) at place 28 of stretch 14", y.write(0), 0);
        checks.same("control 0", Disks.control(y, 0), "1 15 1 1 16 0 0 0 0 0 0");
    }

    private void stretch15Get() {
        checks.sentence("GO TO a stretch s (0 .. 15): the last one, for reading");
        RecordSystem x = inStretch15();
        checks.due("at(0, 0, false), back to the first", x.at(0, 0, false), 0);
        checks.due("stretch", x.has(0, 1), 0);
        checks.due("at(0, 447, false)", x.at(0, 447, false), 0);
        checks.due("stretch", x.has(0, 1), 15);
        checks.due("read(0) at place 27 of stretch 15", x.read(0), 0);
        checks.due("place", x.has(0, 3), 28);
    }

    private void stretch16() {
        checks.sentence("GO TO a stretch s (0 .. 15; else FULL)");
        int[] beyond = {448, 449, 475, 476, 7167, 7168, 99999, 100000};
        for (int r : beyond) {
            checks.due("at(0, " + r + ", true)", inStretch15().at(0, r, true), -2);
            checks.due("at(0, " + r + ", false)", inStretch15().at(0, r, false), -2);
        }
        checks.due("write(0) at place 28 of stretch 15", inStretch15().write(0), -2);
        checks.due("read(0) at place 28 of stretch 15", inStretch15().read(0), -2);
        checks.changesNothing("these", StretchEdgesTest::inStretch15, x -> {
            x.write(0);
            x.read(0);
            for (int r : beyond) {
                x.at(0, r, true);
                x.at(0, r, false);
            }
        });
        RecordSystem y = inStretch15();
        Disks.entry(y, 9, 0, Disks.BLANK, 16, 28, 40);
        checks.due("read(0), though an entry has stretch 16", y.read(0), -2);
        checks.due("at(0, 448, true), though an entry has stretch 16", y.at(0, 448, true), -2);
    }

    private void ownStretch() {
        checks.sentence("GO TO: if it isn't the control's");
        RecordSystem x = atItsEnd();
        x.spoil(0, 229);
        checks.due("at(0, 0, true) in its own stretch, its entry gone", x.at(0, 0, true), 0);
        checks.due("at(0, 27, false) in its own stretch", x.at(0, 27, false), 0);
        checks.due("told(3): no close", x.told(3), 1);
        checks.due("at(0, 28, false) in another", x.at(0, 28, false), -1);
        x.spoil(0, 0);
        x.power(0);
        checks.due("at(0, 5, false) needs no power", x.at(0, 5, false), 0);
        checks.due("at(0, 33, false) does", x.at(0, 33, false), -9);
    }

    private void placeNoughtWhenCome() {
        checks.sentence("GO TO: (the place is 0 when it has come there)");
        RecordSystem x = atItsEnd();
        Disks.entry(x, 1, 0, Disks.BLANK, 1, 1, 15);
        checks.due("at(0, 29, false), which ends", x.at(0, 29, false), -1);
        checks.same("control 0", Disks.control(x, 0), "1 1 1 0 15 0 0 0 0 0 0");
        checks.due("at(0, 28, false)", x.at(0, 28, false), 0);
        checks.due("read(0)", x.read(0), 0);
        checks.due("place", x.has(0, 3), 1);
        checks.due("at(0, 29, false), which ends, in its own stretch", x.at(0, 29, false), -1);
        checks.due("place stays", x.has(0, 3), 1);
        x.spoil(8, 0);
        checks.due("at(0, 5, false), which ends, in stretch 0", x.at(0, 5, false), -1);
        checks.same("control 0", Disks.control(x, 0), "1 0 0 0 8 9 10 11 12 13 14");
    }

    private void closedOnTheWay() {
        checks.sentence("GO TO: close, but for the control, which stays open");
        RecordSystem x = new RecordSystem();
        x.make(0);
        Disks.entry(x, 9, 0, Disks.BLANK, 3, 28, 40, 41, 42, 43, 44, 45, 46);
        x.at(0, 13, true);
        checks.due("count before", x.disk(8), 0);
        checks.due("at(0, 90, false)", x.at(0, 90, false), 0);
        checks.same("entry 0", Disks.bytes(x, 0), "0 32 32 32 32 32 32 0 14 0 0 0 8 0 0 0");
        checks.same("control 0", Disks.control(x, 0), "1 3 28 6 40 41 42 43 44 45 46");
        checks.due("told(3)", x.told(3), 3);
        checks.due("at(0, 0, true), back again", x.at(0, 0, true), 0);
        checks.same("control 0", Disks.control(x, 0), "1 0 14 0 9 0 0 8 0 0 0");
        checks.due("told(3): a close and a record", x.told(3), 5);
    }

    private void closeFindsNothing() {
        checks.sentence("GO TO: if that finds nothing, NONE");
        RecordSystem x = atItsEnd();
        Disks.entry(x, 1, 0, Disks.BLANK, 1, 5, 40);
        for (int v : new int[] {1, 15, 16, 229}) {
            x.spoil(0, v);
            checks.due("read(0), byte 0 of its entry being " + v, x.read(0), -1);
            checks.due("write(0)", x.write(0), -1);
            checks.due("at(0, 28, false)", x.at(0, 28, false), -1);
            checks.due("at(0, 60, true)", x.at(0, 60, true), -1);
            checks.same("control 0 stays open there", Disks.control(x, 0), FULL_STRETCH);
        }
        checks.due("told(3)", x.told(3), 0);
        checks.due("told(0)", x.told(0), 49);
        x.power(0);
        checks.due("write(0): that comes before power is missed", x.write(0), -1);
    }

    private void firstEntryOfTheStretch() {
        checks.sentence("then the first entry that fits with stretch s is the control's, with its count and blocks");
        RecordSystem x = atItsEnd();
        Disks.entry(x, 1, 0, Disks.BLANK, 2, 1, 40);
        Disks.entry(x, 2, 1, Disks.BLANK, 1, 2, 41);
        Disks.entry(x, 3, 0, "OTHER ", 1, 3, 42);
        Disks.entry(x, 4, 17, Disks.BLANK, 1, 4, 43);
        Disks.entry(x, 5, 0, Disks.BLANK, 129, 4, 44);
        Disks.entry(x, 30, 0, Disks.BLANK, 1, 200, 45, 255, 0, 64, 0, 0, 46);
        Disks.entry(x, 31, 0, Disks.BLANK, 1, 6, 47);
        checks.due("read(0)", x.read(0), 0);
        checks.same("control 0", Disks.control(x, 0), "1 1 200 1 45 255 0 64 0 0 46");
        checks.due("close(0)", x.close(0), 30);
    }

    private void readOnlyAsOpened() {
        checks.sentence("GO TO: (read only or not as it was opened)");
        RecordSystem x = atItsEnd();
        Disks.entry(x, 1, 0, Disks.BLANK, 1, 1, 40);
        Disks.readOnly(x, 1);
        checks.due("write(0), opened to write, into a stretch that is read only", x.write(0), 0);
        checks.due("at(0, 0, true), back again", x.at(0, 0, true), 0);
        RecordSystem y = new RecordSystem();
        Disks.entry(y, 0, 0, Disks.BLANK, 0, 1, 40);
        Disks.entry(y, 1, 0, Disks.BLANK, 1, 1, 41);
        Disks.readOnly(y, 0);
        y.open(0);
        checks.due("at(0, 28, true), opened read only, into one that isn't", y.at(0, 28, true), -3);
        checks.due("at(0, 28, false)", y.at(0, 28, false), 0);
        checks.due("at(0, 29, true)", y.at(0, 29, true), -3);
        checks.due("at(0, 0, true), back again", y.at(0, 0, true), -3);
        checks.due("at(0, 56, true) into a new one", y.at(0, 56, true), -3);
        checks.due("at(0, 56, true) again", y.at(0, 56, true), -3);
    }

    private void endForReading() {
        checks.sentence("GO TO: for reading END (-1, the control stays in the old stretch, closed as it was)");
        RecordSystem x = atItsEnd();
        x.at(0, 3, true);
        x.spoil(8, 4);
        checks.due("at(0, 28, false)", x.at(0, 28, false), -1);
        checks.same("control 0", Disks.control(x, 0), "1 0 28 3 8 9 10 11 12 13 14");
        checks.due("its entry was written", x.disk(8), 28);
        checks.due("told(2): none was made", x.told(2), 31);
        checks.due("read(0) goes on in the old stretch", x.read(0), 0);
        checks.due("at(0, 447, false)", x.at(0, 447, false), -1);
        checks.due("told(3): a record and two closes", x.told(3), 3);
        checks.due("close(0)", x.close(0), 0);
    }

    private void madeForWriting() {
        checks.sentence("GO TO: for writing an entry is made for it");
        RecordSystem x = Disks.wanting("A?C   ");
        x.login(15);
        for (int entry = 0; entry < 31; entry++) {
            x.make(0);
        }
        x.spoil(31 * 16 + 5, 255);
        x.spoil(31 * 16 + 15, 255);
        checks.due("at(0, 30, true), one is free", x.at(0, 30, true), 0);
        checks.same("the entry", Disks.bytes(x, 31), "15 65 63 67 32 32 32 1 0 0 0 0 0 0 0 0");
        checks.same("control 0", Disks.control(x, 0), "1 1 3 2 8 0 0 0 0 0 0");
        checks.due("told(2)", x.told(2), 0);
    }

    private void fullForWriting() {
        checks.sentence("GO TO: (FULL if none is free)");
        RecordSystem x = new RecordSystem();
        for (int entry = 0; entry < 32; entry++) {
            x.make(0);
        }
        x.at(0, 5, true);
        checks.due("at(0, 28, true)", x.at(0, 28, true), -2);
        checks.same("control 0 stays", Disks.control(x, 0), "1 0 6 5 0 8 0 0 0 0 0");
        checks.due("it was closed first", x.disk(8), 6);
        checks.due("told(3)", x.told(3), 34);
        x.at(0, 27, true);
        x.write(0);
        checks.due("write(0) at place 28", x.write(0), -2);
        checks.due("place", x.has(0, 3), 28);
        checks.due("at(0, 28, false): for reading that is the end", x.at(0, 28, false), -1);
        x.spoil(7 * 16, 16);
        checks.due("write(0), one is free", x.write(0), 0);
        checks.due("its stretch", x.disk(7 * 16 + 7), 1);
    }

    private static RecordSystem readOnly() {
        RecordSystem x = new RecordSystem();
        Disks.entry(x, 0, 0, Disks.BLANK, 0, 3, 40);
        Disks.readOnly(x, 0);
        x.open(0);
        return x;
    }

    private void putReadOnly() {
        checks.sentence("PUT: -3 if read only");
        checks.due("write(0), a block told", readOnly().write(0), -3);
        checks.due("at(0, 2, true), a block told", readOnly().at(0, 2, true), -3);
        checks.due("at(0, 27, true), none told", readOnly().at(0, 27, true), -3);
        checks.changesNothing("these", StretchEdgesTest::readOnly, x -> {
            x.write(0);
            x.at(0, 2, true);
            x.at(0, 27, true);
        });
    }

    private void putWhereABlockIsTold() {
        checks.sentence("PUT: if no block is told for it");
        RecordSystem x = new RecordSystem();
        Disks.entry(x, 0, 0, Disks.BLANK, 0, 0, 40, 0, 0, 0, 0, 0, 41);
        x.open(0);
        checks.due("at(0, 3, true), told", x.at(0, 3, true), 0);
        checks.due("at(0, 24, true), told", x.at(0, 24, true), 0);
        checks.due("told(0)", x.told(0), 56);
        checks.due("at(0, 4, true), not told", x.at(0, 4, true), 0);
        checks.due("at(0, 7, true), told by now", x.at(0, 7, true), 0);
        checks.due("at(0, 23, true), not told", x.at(0, 23, true), 0);
        checks.due("told(0)", x.told(0), 54);
        checks.same("control 0", Disks.control(x, 0), "1 0 25 23 40 8 0 0 0 9 41");
    }

    private void putTheLeast() {
        checks.sentence("PUT: the least that isn't taken is given");
        RecordSystem x = Disks.wanting("A     ", "B     ");
        Disks.entry(x, 0, 1, "X     ", 0, 0, 8, 10, 11);
        x.login(0);
        x.make(0);
        x.at(0, 24, true);
        checks.due("9, between others", x.has(0, 10), 9);
        x.at(0, 0, true);
        checks.due("12, behind others", x.has(0, 4), 12);
        x.close(0);
        x.erase(0);
        x.make(1);
        x.at(1, 12, true);
        checks.due("9, given back", x.has(1, 7), 9);
        checks.due("told(0)", x.told(0), 52);
    }

    private static RecordSystem untaken(int untaken) {
        RecordSystem x = Disks.wanting("A     ", "B     ");
        x.make(0);
        for (int b = 0; b < 56 - untaken; b++) {
            x.at(0, 4 * b, true);
        }
        x.make(1);
        return x;
    }

    private void putDiskFull() {
        checks.sentence("PUT: (DISK FULL, -4, if there is none)");
        RecordSystem x = untaken(1);
        checks.due("told(0)", x.told(0), 1);
        checks.due("write(1), one isn't taken", x.write(1), 0);
        checks.due("has(1, 4)", x.has(1, 4), 63);
        checks.due("at(1, 4, true), none is left", x.at(1, 4, true), -4);
        checks.due("at(1, 3, true), where one is told", x.at(1, 3, true), 0);
        checks.due("write(1), where one is told", x.write(1), 0);
        checks.due("write(1), where none is", x.write(1), -4);
        checks.same("control 1", Disks.control(x, 1), "1 0 4 4 63 0 0 0 0 0 0");
        checks.due("write(1) at place 0", untaken(0).write(1), -4);
        checks.due("at(1, 27, true)", untaken(0).at(1, 27, true), -4);
        checks.changesNothing("these", () -> untaken(0), y -> {
            y.write(1);
            y.at(1, 27, true);
        });
        x.close(0);
        x.erase(0);
        checks.due("write(1), others given back", x.write(1), 0);
        checks.due("has(1, 5)", x.has(1, 5), 8);
    }

    private void putCount() {
        checks.sentence("PUT: the count becomes p + 1, if it was less");
        int[][] due = {{0, 0, 1}, {1, 0, 1}, {2, 0, 2}, {0, 27, 28}, {27, 27, 28}, {28, 27, 28}, {29, 27, 29},
            {9, 9, 10}, {10, 9, 10}, {11, 9, 11}, {255, 27, 255}};
        for (int[] row : due) {
            RecordSystem x = new RecordSystem();
            Disks.entry(x, 0, 0, Disks.BLANK, 0, row[0]);
            x.open(0);
            x.at(0, row[1], true);
            checks.due("count " + row[0] + ", put at place " + row[1], x.has(0, 2), row[2]);
        }
    }

    private void getBelowTheCount() {
        checks.sentence("GET a record at place p: END (-1) if p is not below the count");
        for (int count = 0; count <= 30; count++) {
            RecordSystem x = new RecordSystem();
            Disks.entry(x, 0, 0, Disks.BLANK, 0, count, 8, 9, 10, 11, 12, 13, 14);
            x.open(0);
            for (int p = 0; p < 28; p++) {
                checks.due("count " + count + ", at(0, " + p + ", false)", x.at(0, p, false), p < count ? 0 : -1);
            }
            x.open(0);
            for (int p = 0; p < 28; p++) {
                checks.due("count " + count + ", read(0) at place " + p, x.read(0), p < count ? 0 : -1);
            }
        }
    }

    private void getWithoutABlock() {
        checks.sentence("GET: or no block is told");
        for (int k = 0; k < 7; k++) {
            RecordSystem x = new RecordSystem();
            Disks.entry(x, 0, 0, Disks.BLANK, 0, 28, 8, 9, 10, 11, 12, 13, 14);
            x.spoil(9 + k, 0);
            x.open(0);
            for (int p = 0; p < 28; p++) {
                checks.due("none told at " + k + ", at(0, " + p + ", false)", x.at(0, p, false), p / 4 == k ? -1 : 0);
            }
            checks.due("told(0)", x.told(0), 56);
        }
    }

    private void getToTheBuffer() {
        checks.sentence("GET: else it comes to the buffer");
        RecordSystem x = new RecordSystem();
        Disks.entry(x, 0, 0, Disks.BLANK, 0, 5, 63, 0);
        x.open(0);
        for (int i = 0; i < 16; i++) {
            x.spoil(4080 + i, 255 - i);
        }
        Disks.fill(x, 7);
        checks.due("at(0, 4, false), no block", x.at(0, 4, false), -1);
        checks.due("at(0, 5, false), the count", x.at(0, 5, false), -1);
        checks.due("buffer(0) stays", x.buffer(0), 0x0707070707070707L);
        checks.due("buffer(1) stays", x.buffer(1), 0x0707070707070707L);
        checks.due("at(0, 3, false)", x.at(0, 3, false), 0);
        checks.due("buffer(0)", x.buffer(0), 0xf8f9fafbfcfdfeffL);
        checks.due("buffer(1)", x.buffer(1), 0xf0f1f2f3f4f5f6f7L);
    }

    private void readAtPlace28() {
        checks.sentence("READ: if the place is 28: go to the next stretch, the place is 0 then");
        RecordSystem x = atItsEnd();
        x.at(0, 27, false);
        checks.due("read(0) at place 27", x.read(0), 0);
        checks.same("control 0", Disks.control(x, 0), FULL_STRETCH);
        checks.due("told(3): no close", x.told(3), 0);
        checks.due("read(0) at place 28, no next stretch", x.read(0), -1);
        checks.same("control 0 stays", Disks.control(x, 0), FULL_STRETCH);
        Disks.entry(x, 1, 0, Disks.BLANK, 1, 0, 15);
        checks.due("read(0) at place 28, the next one empty", x.read(0), -1);
        checks.same("control 0 has come there", Disks.control(x, 0), "1 1 0 0 15 0 0 0 0 0 0");
        checks.due("read(0) again", x.read(0), -1);
        checks.due("at(0, 27, false), back again", x.at(0, 27, false), 0);
        x.spoil(16 + 8, 1);
        x.read(0);
        checks.due("read(0) at place 28, one record in the next", x.read(0), 0);
        checks.same("control 0", Disks.control(x, 0), "1 1 1 1 15 0 0 0 0 0 0");
    }

    private void readOneMore() {
        checks.sentence("READ: get the record at the place; the place is 1 more");
        RecordSystem x = new RecordSystem();
        Disks.entry(x, 0, 0, Disks.BLANK, 0, 2, 8);
        x.spoil(512, 50);
        x.spoil(528, 51);
        x.spoil(544, 52);
        x.open(0);
        checks.due("read(0)", x.read(0), 0);
        checks.due("record 0", x.buffer(0), 50);
        checks.due("place", x.has(0, 3), 1);
        checks.due("read(0)", x.read(0), 0);
        checks.due("record 1", x.buffer(0), 51);
        checks.due("place", x.has(0, 3), 2);
        checks.due("read(0) at the count", x.read(0), -1);
        checks.due("record 1 still", x.buffer(0), 51);
        checks.due("place stays", x.has(0, 3), 2);
    }

    private void writeAtPlace28() {
        checks.sentence("WRITE: likewise, and put: at place 28");
        RecordSystem x = atItsEnd();
        x.at(0, 27, false);
        checks.due("write(0) at place 27", x.write(0), 0);
        checks.same("control 0", Disks.control(x, 0), FULL_STRETCH);
        checks.due("told(3): no close", x.told(3), 1);
        checks.due("write(0) at place 28, no next stretch", x.write(0), 0);
        checks.same("control 0", Disks.control(x, 0), "1 1 1 1 15 0 0 0 0 0 0");
        checks.due("told(3): a close, an entry, a record", x.told(3), 4);
        checks.due("at(0, 27, true), back again", x.at(0, 27, true), 0);
        checks.due("write(0) at place 27", x.write(0), 0);
        checks.due("write(0) at place 28, into the next", x.write(0), 0);
        checks.same("control 0", Disks.control(x, 0), "1 1 1 1 15 0 0 0 0 0 0");
        checks.due("told(2): none was made", x.told(2), 30);
    }

    private void writeOneMore() {
        checks.sentence("WRITE: likewise, and put: the place is 1 more");
        RecordSystem x = new RecordSystem();
        x.make(0);
        x.set(0, 60);
        checks.due("write(0)", x.write(0), 0);
        checks.due("place", x.has(0, 3), 1);
        x.set(0, 61);
        checks.due("write(0)", x.write(0), 0);
        checks.due("place", x.has(0, 3), 2);
        checks.due("record 0", x.disk(512), 60);
        checks.due("record 1", x.disk(528), 61);
        x.power(0);
        checks.due("write(0) without power", x.write(0), -9);
        checks.due("place stays", x.has(0, 3), 2);
        checks.due("count stays", x.has(0, 2), 2);
    }

    private void atPlaces() {
        checks.sentence("AT record R: go to its stretch, then get or put it; the place becomes R % 28");
        RecordSystem x = new RecordSystem();
        x.make(0);
        for (int r : new int[] {0, 1, 27, 28, 29, 55, 56, 447, 420, 27, 0}) {
            checks.due("at(0, " + r + ", true)", x.at(0, r, true), 0);
            checks.due("stretch", x.has(0, 1), r / 28);
            checks.due("place", x.has(0, 3), r % 28);
            checks.due("at(0, " + r + ", false)", x.at(0, r, false), 0);
            checks.due("place", x.has(0, 3), r % 28);
        }
    }

    private void atPlaceWhenItFails() {
        checks.sentence("What comes first counts; nothing behind it is done. (the place of AT)");
        RecordSystem x = atItsEnd();
        x.at(0, 13, false);
        checks.due("at(0, 448, true)", x.at(0, 448, true), -2);
        checks.due("place", x.has(0, 3), 13);
        x.power(0);
        checks.due("at(0, 20, true)", x.at(0, 20, true), -9);
        checks.due("place", x.has(0, 3), 13);
        checks.due("at(0, 48, false)", x.at(0, 48, false), -9);
        checks.due("place", x.has(0, 3), 13);
        x.power(9);
        checks.due("at(0, 48, false)", x.at(0, 48, false), -1);
        checks.due("place", x.has(0, 3), 13);
        RecordSystem y = readOnly();
        y.at(0, 2, false);
        checks.due("at(0, 1, true), read only", y.at(0, 1, true), -3);
        checks.due("place", y.has(0, 3), 2);
        checks.due("at(0, 3, false), the count", y.at(0, 3, false), -1);
        checks.due("place", y.has(0, 3), 2);
        RecordSystem z = untaken(0);
        checks.due("at(1, 9, true), the disk full", z.at(1, 9, true), -4);
        checks.due("place", z.has(1, 3), 0);
    }

    private void notOpen() {
        checks.sentence("CALLS answer NONE if a control isn't open where it must be (read, write, at)");
        RecordSystem x = atItsEnd();
        x.close(0);
        checks.due("read(0)", x.read(0), -1);
        checks.due("write(0)", x.write(0), -1);
        checks.due("at(0, 0, false)", x.at(0, 0, false), -1);
        checks.due("at(0, 0, true)", x.at(0, 0, true), -1);
        checks.due("at(0, 28, true)", x.at(0, 28, true), -1);
        checks.due("at(0, 448, true): not open comes before a stretch that isn't", x.at(0, 448, true), -1);
        x.power(0);
        checks.due("write(0) without power", x.write(0), -1);
        checks.due("at(0, 28, false) without power", x.at(0, 28, false), -1);
        checks.due("told(3)", x.told(3), 0);
        checks.due("told(0)", x.told(0), 49);
    }

    private void whatComesFirst() {
        checks.sentence("Answers of read, write and at: What comes first counts; nothing behind it is done.");
        RecordSystem x = inStretch15();
        x.spoil(16, 229);
        checks.due("no stretch 16, before no entry of its own", x.write(0), -2);
        checks.due("no entry of its own, before the end", x.at(0, 56, false), -1);
        RecordSystem y = new RecordSystem();
        for (int entry = 0; entry < 32; entry++) {
            y.make(0);
        }
        y.guard(0, true);
        y.open(0);
        checks.due("no entry free, before read only", y.at(0, 28, true), -2);
        y.power(0);
        checks.due("power gone at the close, before no entry free", y.at(0, 28, true), -9);
        checks.due("power gone at the close, before the end", y.at(0, 28, false), -9);
        checks.due("read only, before power is missed", y.at(0, 0, true), -3);
        RecordSystem z = untaken(0);
        z.guard(1, true);
        z.open(1);
        checks.due("read only, before the disk is full", z.write(1), -3);
        z.guard(1, false);
        z.open(1);
        z.power(0);
        checks.due("the disk full, before power is missed", z.write(1), -4);
        z.power(1);
        checks.due("power gone at the new entry, before the disk is full", z.at(1, 28, true), -9);
    }
}
