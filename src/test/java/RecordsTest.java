/** Promises 12 (read), 13 (write), 14 (at): put, get, and the way from stretch to stretch. */
public final class RecordsTest {
    public static void main(String[] args) {
        Checks checks = new Checks();
        notOpen(checks);
        writesAndReadsInOrder(checks);
        recordsStandWhereTheirBlockSays(checks);
        getEnds(checks);
        getKeepsBufferAndPlace(checks);
        blocksCountModulo64(checks);
        putGivesTheLeastBlock(checks);
        putKeepsAGreaterCount(checks);
        putReadOnly(checks);
        putDiskFull(checks);
        putWithoutPower(checks);
        putOverAnEntry(checks);
        checks.finish();
    }

    private static void notOpen(Checks checks) {
        RecordSystem x = new RecordSystem();
        Disks.entry(x, 0, 0, Disks.BLANK, 0, 28, 8, 9, 10, 11, 12, 13, 14);
        x.power(0);
        checks.due("read(0)", x.read(0), -1);
        checks.due("write(0)", x.write(0), -1);
        checks.due("at(0, 0, false)", x.at(0, 0, false), -1);
        checks.due("at(0, 0, true)", x.at(0, 0, true), -1);
        checks.due("at(0, 100000, true)", x.at(0, 100000, true), -1);
        checks.due("told(0)", x.told(0), 56);
    }

    private static void writesAndReadsInOrder(Checks checks) {
        RecordSystem x = new RecordSystem();
        x.make(0);
        for (int r = 0; r < 30; r++) {
            x.set(3, 100 + r);
            checks.due("write(0), record " + r, x.write(0), 0);
            checks.due("place", x.has(0, 3), r < 28 ? r + 1 : r - 27);
        }
        checks.same("control 0 in stretch 1", Disks.control(x, 0), "1 1 2 2 15 0 0 0 0 0 0");
        x.close(0);
        x.open(0);
        for (int r = 0; r < 30; r++) {
            checks.due("read(0), record " + r, x.read(0), 0);
            checks.due("its byte 3", x.buffer(0) >> 24, 100 + r);
        }
        checks.due("read(0) at the end", x.read(0), -1);
        checks.due("place at the end", x.has(0, 3), 2);
    }

    private static void recordsStandWhereTheirBlockSays(Checks checks) {
        RecordSystem x = new RecordSystem();
        Disks.entry(x, 0, 0, Disks.BLANK, 0, 0, 0, 0, 0, 40);
        x.open(0);
        Disks.fill(x, 201);
        checks.due("at(0, 14, true)", x.at(0, 14, true), 0);
        String all = "201 201 201 201 201 201 201 201 201 201 201 201 201 201 201 201";
        checks.same("block 40, record 2", Disks.bytes(x, 40 * 4 + 2), all);
        checks.due("the byte before", x.disk(40 * 64 + 31), 0);
        checks.due("the byte behind", x.disk(40 * 64 + 48), 0);
        x.spoil(40 * 64 + 32, 17);
        x.spoil(40 * 64 + 47, 18);
        checks.due("at(0, 14, false)", x.at(0, 14, false), 0);
        checks.due("buffer(0)", x.buffer(0), 0xc9c9c9c9c9c9c911L);
        checks.due("buffer(1)", x.buffer(1), 0x12c9c9c9c9c9c9c9L);
        checks.due("told(3): a get writes nothing", x.told(3), 1);
    }

    private static void getEnds(Checks checks) {
        RecordSystem x = new RecordSystem();
        Disks.entry(x, 0, 0, Disks.BLANK, 0, 10, 8, 0, 10, 11);
        x.open(0);
        checks.due("at(0, 3, false)", x.at(0, 3, false), 0);
        checks.due("at(0, 4, false), no block", x.at(0, 4, false), -1);
        checks.due("at(0, 8, false)", x.at(0, 8, false), 0);
        checks.due("at(0, 9, false), the last", x.at(0, 9, false), 0);
        checks.due("at(0, 10, false), not below the count", x.at(0, 10, false), -1);
        checks.due("at(0, 12, false), not below the count", x.at(0, 12, false), -1);
        checks.due("at(0, 27, false)", x.at(0, 27, false), -1);
    }

    private static void getKeepsBufferAndPlace(Checks checks) {
        RecordSystem x = new RecordSystem();
        Disks.entry(x, 0, 0, Disks.BLANK, 0, 10, 8, 0, 10);
        x.open(0);
        checks.due("at(0, 3, false)", x.at(0, 3, false), 0);
        checks.due("place of record 3", x.has(0, 3), 3);
        Disks.fill(x, 5);
        checks.due("at(0, 5, false)", x.at(0, 5, false), -1);
        checks.due("place", x.has(0, 3), 3);
        checks.due("buffer(0)", x.buffer(0), 0x0505050505050505L);
        checks.due("read(0) of record 3", x.read(0), 0);
        checks.due("read(0) of record 4", x.read(0), -1);
        checks.due("place", x.has(0, 3), 4);
        x.power(0);
        checks.due("at(0, 9, false) without power", x.at(0, 9, false), 0);
        checks.due("place", x.has(0, 3), 9);
    }

    private static void blocksCountModulo64(Checks checks) {
        RecordSystem x = new RecordSystem();
        Disks.entry(x, 0, 0, Disks.BLANK, 0, 255, 64 + 30, 255, 64, 3);
        x.spoil(30 * 64, 91);
        x.spoil(63 * 64 + 16, 92);
        x.spoil(3 * 64, 93);
        x.open(0);
        checks.due("at(0, 0, false)", x.at(0, 0, false), 0);
        checks.due("block 94 is block 30", x.buffer(0) & 255, 91);
        checks.due("at(0, 5, false)", x.at(0, 5, false), 0);
        checks.due("block 255 is block 63", x.buffer(0) & 255, 92);
        checks.due("at(0, 8, false)", x.at(0, 8, false), 0);
        checks.due("block 64 is block 0: entry 0", x.buffer(0), 0x0020202020202000L);
        checks.due("at(0, 12, false)", x.at(0, 12, false), 0);
        checks.due("block 3: entry 12", x.buffer(0), 93);
        checks.due("at(0, 24, false), no block, whatever the count", x.at(0, 24, false), -1);
        checks.due("at(0, 0, true)", x.at(0, 0, true), 0);
        checks.due("block 30", x.disk(30 * 64), 93);
        checks.due("has(0, 4) stays as it is", x.has(0, 4), 94);
        checks.due("has(0, 2) stays as it is", x.has(0, 2), 255);
    }

    private static void putGivesTheLeastBlock(Checks checks) {
        RecordSystem x = Disks.wanting("A     ", "B     ");
        Disks.entry(x, 0, 0, "X     ", 0, 0, 8, 9, 11);
        x.login(0);
        x.make(0);
        x.make(1);
        checks.due("at(0, 24, true)", x.at(0, 24, true), 0);
        checks.due("at(1, 0, true)", x.at(1, 0, true), 0);
        checks.due("at(0, 27, true)", x.at(0, 27, true), 0);
        checks.due("at(0, 7, true)", x.at(0, 7, true), 0);
        checks.same("control 0", Disks.control(x, 0), "1 0 28 7 0 13 0 0 0 0 10");
        checks.same("control 1", Disks.control(x, 1), "1 0 1 0 12 0 0 0 0 0 0");
        checks.due("told(0)", x.told(0), 50);
        checks.due("entry 1's block before a close", x.disk(16 + 15), 0);
    }

    private static void putKeepsAGreaterCount(Checks checks) {
        RecordSystem x = new RecordSystem();
        x.make(0);
        checks.due("at(0, 9, true)", x.at(0, 9, true), 0);
        checks.due("count", x.has(0, 2), 10);
        checks.due("at(0, 3, true)", x.at(0, 3, true), 0);
        checks.due("count", x.has(0, 2), 10);
        checks.due("at(0, 10, true)", x.at(0, 10, true), 0);
        checks.due("count", x.has(0, 2), 11);
        checks.due("place", x.has(0, 3), 10);
        checks.due("write(0) at the place", x.write(0), 0);
        checks.due("count", x.has(0, 2), 11);
        checks.due("write(0)", x.write(0), 0);
        checks.due("count", x.has(0, 2), 12);
    }

    private static void putReadOnly(Checks checks) {
        RecordSystem x = new RecordSystem();
        Disks.entry(x, 0, 0, Disks.BLANK, 0, 1, 8);
        Disks.readOnly(x, 0);
        x.open(0);
        checks.due("write(0)", x.write(0), -3);
        checks.due("at(0, 9, true), no block", x.at(0, 9, true), -3);
        x.power(0);
        checks.due("write(0) without power", x.write(0), -3);
        checks.same("control 0", Disks.control(x, 0), "1 0 1 0 8 0 0 0 0 0 0");
        checks.due("told(0)", x.told(0), 56);
        checks.due("read(0)", x.read(0), 0);
    }

    private static void putDiskFull(Checks checks) {
        RecordSystem x = new RecordSystem();
        x.make(0);
        for (int b = 0; b < 56; b++) {
            checks.due("at(0, " + 4 * b + ", true)", x.at(0, 4 * b, true), 0);
        }
        checks.due("has(0, 10)", x.has(0, 10), 63);
        checks.due("told(0)", x.told(0), 0);
        checks.due("write(0) where a block is told", x.write(0), 0);
        checks.due("at(0, 224, true)", x.at(0, 224, true), -4);
        checks.same("control 0 has come to stretch 8", Disks.control(x, 0), "1 8 0 0 0 0 0 0 0 0 0");
        x.power(0);
        checks.due("write(0): the disk is full before power is missed", x.write(0), -4);
        checks.due("told(2)", x.told(2), 23);
    }

    private static void putWithoutPower(Checks checks) {
        RecordSystem x = new RecordSystem();
        x.make(0);
        Disks.fill(x, 9);
        x.write(0);
        x.power(0);
        checks.due("write(0)", x.write(0), -9);
        checks.same("control 0", Disks.control(x, 0), "1 0 1 1 8 0 0 0 0 0 0");
        checks.due("at(0, 8, true)", x.at(0, 8, true), -9);
        checks.same("control 0, with a block given", Disks.control(x, 0), "1 0 1 1 8 0 9 0 0 0 0");
        checks.due("told(0)", x.told(0), 54);
        checks.due("disk(528)", x.disk(528), 0);
        checks.due("disk(576)", x.disk(576), 0);
        checks.due("at(0, 0, false)", x.at(0, 0, false), 0);
    }

    private static void putOverAnEntry(Checks checks) {
        RecordSystem x = new RecordSystem();
        Disks.entry(x, 0, 0, Disks.BLANK, 0, 0, 64, 1);
        x.open(0);
        Disks.fill(x, 1);
        checks.due("at(0, 5, true) into block 1", x.at(0, 5, true), 0);
        checks.due("told(2): entry 5 is user 1's", x.told(2), 30);
        checks.due("told(0): nothing is taken by that", x.told(0), 56);
        checks.due("at(0, 0, true) over its own entry", x.at(0, 0, true), 0);
        checks.due("close(0)", x.close(0), -1);
        checks.due("told(3)", x.told(3), 2);
    }
}
