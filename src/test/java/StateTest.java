/** Promises 16 (has), 17 (set), 18 (buffer), 19 (disk), 20 (spoil), 21 (told). */
public final class StateTest {
    public static void main(String[] args) {
        Checks checks = new Checks();
        hasTellsOfEachControl(checks);
        setAnswersWhatWas(checks);
        bufferTellsHalves(checks);
        diskAndSpoil(checks);
        spoilNeedsNoPower(checks);
        toldUntaken(checks);
        toldTwice(checks);
        toldFree(checks);
        toldWrites(checks);
        checks.finish();
    }

    private static void hasTellsOfEachControl(Checks checks) {
        RecordSystem x = Disks.wanting("A     ", "B     ", "C     ", "D     ");
        Disks.entry(x, 0, 0, "A     ", 0, 2, 8, 9, 10, 11, 12, 13, 14);
        Disks.entry(x, 1, 0, "A     ", 3, 4, 15, 16, 17, 18, 19, 20, 21);
        x.open(0);
        x.at(0, 87, false);
        for (int what = 4; what <= 10; what++) {
            checks.due("has(0, " + what + ")", x.has(0, what), what + 11);
        }
        checks.due("has(0, 0)", x.has(0, 0), 1);
        checks.due("has(0, 1)", x.has(0, 1), 3);
        checks.due("has(0, 2)", x.has(0, 2), 4);
        checks.due("has(0, 3)", x.has(0, 3), 3);
        for (int c = 1; c < 4; c++) {
            checks.same("control " + c, Disks.control(x, c), "0 0 0 0 0 0 0 0 0 0 0");
        }
        x.make(3);
        checks.same("control 3", Disks.control(x, 3), "1 0 0 0 0 0 0 0 0 0 0");
        x.close(0);
        checks.same("control 0, closed", Disks.control(x, 0), "0 0 0 0 0 0 0 0 0 0 0");
    }

    private static void setAnswersWhatWas(Checks checks) {
        RecordSystem x = new RecordSystem();
        for (int i = 0; i < 16; i++) {
            checks.due("set(" + i + ")", x.set(i, 255 - i), 0);
        }
        for (int i = 0; i < 16; i++) {
            checks.due("set(" + i + ") again", x.set(i, i), 255 - i);
        }
        checks.due("set(0, 0)", x.set(0, 0), 0);
        checks.due("set(15, 255)", x.set(15, 255), 15);
        checks.due("told(3)", x.told(3), 0);
    }

    private static void bufferTellsHalves(Checks checks) {
        RecordSystem x = new RecordSystem();
        for (int i = 0; i < 16; i++) {
            x.set(i, 16 * i + 1);
        }
        checks.due("buffer(0)", x.buffer(0), 0x7161514131211101L);
        checks.due("buffer(1), with its highest bit", x.buffer(1), 0xf1e1d1c1b1a19181L);
        Disks.fill(x, 255);
        checks.due("buffer(0) of 255s", x.buffer(0), -1);
    }

    private static void diskAndSpoil(Checks checks) {
        RecordSystem x = new RecordSystem();
        x.spoil(0, 255);
        x.spoil(4095, 128);
        x.spoil(2000, 1);
        checks.due("disk(0)", x.disk(0), 255);
        checks.due("disk(4095)", x.disk(4095), 128);
        checks.due("disk(2000)", x.disk(2000), 1);
        checks.due("disk(1999)", x.disk(1999), 0);
        checks.due("disk(2001)", x.disk(2001), 0);
        x.spoil(2000, 0);
        checks.due("disk(2000)", x.disk(2000), 0);
    }

    private static void spoilNeedsNoPower(Checks checks) {
        RecordSystem x = new RecordSystem();
        x.power(0);
        x.spoil(700, 9);
        checks.due("disk(700)", x.disk(700), 9);
        checks.due("told(3): a spoil is no write", x.told(3), 0);
        x.power(1);
        x.spoil(700, 10);
        checks.due("make(0): a spoil spends no power", x.make(0), 0);
        x.spoil(9, 50);
        checks.due("told(0): a spoil takes nothing", x.told(0), 56);
        checks.same("control 0 stays", Disks.control(x, 0), "1 0 0 0 0 0 0 0 0 0 0");
    }

    private static void toldUntaken(Checks checks) {
        RecordSystem x = new RecordSystem();
        checks.due("told(0)", x.told(0), 56);
        x.make(0);
        x.write(0);
        x.at(0, 4, true);
        checks.due("told(0)", x.told(0), 54);
        x.close(0);
        checks.due("told(0) behind a close", x.told(0), 54);
        x.spoil(9, 0);
        checks.due("told(0) behind a spoil", x.told(0), 54);
        checks.due("login(0)", x.login(0), 55);
        checks.due("told(0)", x.told(0), 55);
    }

    private static void toldTwice(Checks checks) {
        RecordSystem x = new RecordSystem();
        checks.due("told(1)", x.told(1), 0);
        Disks.entry(x, 0, 0, "A     ", 0, 0, 8, 8, 8, 5, 5, 64, 64);
        checks.due("told(1): 8 within one entry; 0 to 7 don't count", x.told(1), 1);
        Disks.entry(x, 31, 15, "B     ", 0, 0, 9, 10, 63);
        checks.due("told(1)", x.told(1), 1);
        Disks.entry(x, 30, 3, "C     ", 0, 0, 255, 64 + 10, 128 + 8);
        checks.due("told(1) by modulo 64, of all users", x.told(1), 3);
        checks.due("told(1) again", x.told(1), 3);
        x.spoil(31 * 16, 16);
        checks.due("told(1) without a free entry's", x.told(1), 1);
    }

    private static void toldFree(Checks checks) {
        RecordSystem x = new RecordSystem();
        checks.due("told(2)", x.told(2), 32);
        x.spoil(0, 15);
        x.spoil(31 * 16, 0);
        checks.due("told(2)", x.told(2), 30);
        x.spoil(16, 16);
        x.spoil(32, 255);
        checks.due("told(2)", x.told(2), 30);
        x.spoil(32 * 16, 0);
        checks.due("told(2): block 8 holds no entry", x.told(2), 30);
    }

    private static void toldWrites(Checks checks) {
        RecordSystem x = new RecordSystem();
        x.make(0);
        x.write(0);
        x.close(0);
        checks.due("told(3)", x.told(3), 3);
        x.power(1);
        checks.due("told(3) behind power", x.told(3), 0);
        x.guard(0, true);
        x.guard(0, false);
        checks.due("told(3): a lost write doesn't count", x.told(3), 1);
        x.login(0);
        checks.due("told(3) behind a login", x.told(3), 0);
        x.guard(0, false);
        checks.due("told(3)", x.told(3), 1);
    }
}
