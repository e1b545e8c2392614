/** Promises 1 (a new object), 2 (login) and 3 (power). */
public final class StartTest {
    public static void main(String[] args) {
        Checks checks = new Checks();
        newDisk(checks);
        newControls(checks);
        newPowerLasts(checks);
        loginTellsWhatIsTaken(checks);
        loginForgetsWhatWasGiven(checks);
        loginClosesAndChangesUser(checks);
        loginKeepsNamesAndBuffer(checks);
        loginBringsPowerBack(checks);
        powerLastsForSoManyWrites(checks);
        powerCanBeSetAnew(checks);
        checks.finish();
    }

    private static void newDisk(Checks checks) {
        RecordSystem x = null;
        for (int i = 0; i < 4096; i++) {
            if (i % 512 == 0) {
                x = new RecordSystem();
            }
            checks.due("new disk(" + i + ")", x.disk(i), i < 512 && i % 16 == 0 ? Disks.FREE : 0);
        }
    }

    private static void newControls(Checks checks) {
        RecordSystem x = new RecordSystem();
        checks.due("buffer(0)", x.buffer(0), 0);
        checks.due("buffer(1)", x.buffer(1), 0);
        Disks.entry(x, 30, 0, Disks.BLANK, 0, 0);
        for (int c = 0; c < 4; c++) {
            checks.same("control " + c, Disks.control(x, c), "0 0 0 0 0 0 0 0 0 0 0");
            checks.due("search(" + c + ", 0) of six blanks, user 0", x.search(c, 0), 30);
        }
        Disks.entry(x, 29, 1, Disks.BLANK, 0, 0);
        checks.due("search(0, 0) beside another user's", x.search(0, 0), 30);
    }

    private static void newPowerLasts(Checks checks) {
        RecordSystem x = new RecordSystem();
        x.make(0);
        for (int i = 0; i < 400; i++) {
            checks.due("at(0, 3, true) the time " + i, x.at(0, 3, true), 0);
        }
        checks.due("told(3)", x.told(3), 401);
    }

    private static void loginTellsWhatIsTaken(Checks checks) {
        RecordSystem x = new RecordSystem();
        checks.due("login(0) with no entry", x.login(0), 56);
        Disks.entry(x, 0, 0, "AAAAAA", 0, 0, 8, 9, 10, 11, 12, 13, 14);
        Disks.entry(x, 5, 15, "BBBBBB", 99, 0, 20, 20, 0, 7, 64 + 21, 128, 255);
        Disks.entry(x, 6, 16, "CCCCCC", 0, 0, 30, 31);
        Disks.entry(x, 7, Disks.FREE, "DDDDDD", 0, 0, 32, 33);
        checks.due("told(0) before the login", x.told(0), 56);
        checks.due("login(15), entries of all users", x.login(15), 56 - 7 - 3);
        checks.due("told(0)", x.told(0), 46);
        checks.due("login(3)", x.login(3), 46);
    }

    private static void loginForgetsWhatWasGiven(Checks checks) {
        RecordSystem x = new RecordSystem();
        x.make(0);
        x.write(0);
        checks.due("told(0) with a block given", x.told(0), 55);
        checks.due("login(0) without a close", x.login(0), 56);
        x.open(0);
        x.write(0);
        x.close(0);
        checks.due("login(0) behind a close", x.login(0), 55);
    }

    private static void loginClosesAndChangesUser(Checks checks) {
        RecordSystem x = new RecordSystem();
        for (int c = 0; c < 4; c++) {
            x.make(c);
        }
        x.login(7);
        for (int c = 0; c < 4; c++) {
            checks.same("control " + c, Disks.control(x, c), "0 0 0 0 0 0 0 0 0 0 0");
        }
        checks.due("close(0) behind a login", x.close(0), -1);
        checks.due("search(0, 0) as another user", x.search(0, 0), -1);
        checks.due("make(0) as user 7", x.make(0), 4);
        checks.due("its user", x.disk(64), 7);
    }

    private static void loginKeepsNamesAndBuffer(Checks checks) {
        RecordSystem x = Disks.wanting("KEPT  ");
        x.set(15, 77);
        x.login(0);
        checks.due("byte 15 behind a login", x.set(15, 0), 77);
        x.make(0);
        checks.same("an entry made behind a login", Disks.bytes(x, 0), "0 75 69 80 84 32 32 0 0 0 0 0 0 0 0 0");
    }

    private static void loginBringsPowerBack(Checks checks) {
        RecordSystem x = new RecordSystem();
        x.power(0);
        checks.due("make(0) without power", x.make(0), -9);
        x.login(0);
        x.make(0);
        for (int i = 0; i < 300; i++) {
            checks.due("at(0, 0, true) behind a login", x.at(0, 0, true), 0);
        }
    }

    private static void powerLastsForSoManyWrites(Checks checks) {
        RecordSystem x = new RecordSystem();
        x.power(2);
        checks.due("make(0), write 1", x.make(0), 0);
        checks.due("make(0), write 2", x.make(0), 1);
        checks.due("make(0), write 3", x.make(0), -9);
        checks.due("make(0), write 4", x.make(0), -9);
        checks.due("told(2)", x.told(2), 30);
        checks.due("told(3)", x.told(3), 2);
        x.power(0);
        checks.due("make(0) with power(0)", x.make(0), -9);
        checks.due("told(2)", x.told(2), 30);
    }

    private static void powerCanBeSetAnew(Checks checks) {
        RecordSystem x = new RecordSystem();
        x.power(0);
        x.make(0);
        x.power(1);
        checks.due("make(0) with power set anew", x.make(0), 0);
        checks.due("make(0) beyond it", x.make(0), -9);
        x.power(1000);
        for (int i = 0; i < 31; i++) {
            checks.due("make(0) with power(1000)", x.make(0), i + 1);
        }
        checks.due("make(0) in a full directory", x.make(0), -2);
        x.power(0);
        checks.due("make(0) in a full directory without power", x.make(0), -2);
    }
}
