/** The boundary cases that the document names for power, and for calls that find nothing. */
public final class PowerEdgesTest {
    private final Checks checks = new Checks();

    public static void main(String[] args) {
        new PowerEdgesTest().run();
    }

    private void run() {
        lastWriteAndFirstLost();
        allLaterOnesAreLost();
        aThousandWrites();
        callsThatWouldWrite();
        callsThatBeganWell();
        whatWasDoneInControlsStays();
        whatWasDoneToWhatIsTakenStays();
        callsThatOnlyRead();
        callsThatWriteNothing();
        powerBackByLogin();
        powerSetAnew();
        writesThatWereDone();
        findNothing();
        checks.finish();
    }

    private static RecordSystem oneFile() {
        RecordSystem x = Disks.wanting("A     ", "A     ", "B     ", "??????");
        Disks.entry(x, 0, 0, "A     ", 0, 28, 8, 9, 10, 11, 12, 13, 14);
        x.login(0);
        x.open(0);
        return x;
    }

    private void lastWriteAndFirstLost() {
        checks.sentence("with 0 more to come, power is gone: that write and all later ones are lost (the first)");
        for (int n : new int[] {0, 1, 2, 31}) {
            RecordSystem x = oneFile();
            x.power(n);
            for (int i = 0; i < n; i++) {
                x.set(0, i + 1);
                checks.due("power(" + n + "), write " + (i + 1), x.at(0, 0, true), 0);
                checks.due("the record", x.disk(512), i + 1);
            }
            x.set(0, 99);
            checks.due("power(" + n + "), write " + (n + 1), x.at(0, 0, true), -9);
            checks.due("the record", x.disk(512), n);
            checks.due("told(3)", x.told(3), n);
        }
    }

    private void allLaterOnesAreLost() {
        checks.sentence("that write and all later ones are lost (the later ones)");
        RecordSystem x = oneFile();
        x.power(1);
        x.at(0, 0, true);
        Disks.fill(x, 44);
        for (int i = 0; i < 40; i++) {
            checks.due("at(0, 5, true)", x.at(0, 5, true), -9);
        }
        checks.due("the record", x.disk(9 * 64 + 16), 0);
        checks.due("make(2)", x.make(2), -9);
        checks.due("entry 1", x.disk(16), 229);
        checks.due("guard(1, true)", x.guard(1, true), -9);
        checks.due("entry 0", x.disk(5), 32);
        checks.due("close(0)", x.close(0), -9);
        checks.due("told(3)", x.told(3), 1);
    }

    private void aThousandWrites() {
        checks.sentence("Promise 3: Power lasts for n more writes. (n = 1000)");
        RecordSystem x = Disks.wanting("A     ", "??????");
        for (int entry = 0; entry < 32; entry++) {
            x.make(entry < 8 ? 0 : 2);
        }
        x.power(1000);
        for (int i = 0; i < 31; i++) {
            checks.due("guard(1, true)", x.guard(1, true), 32);
        }
        checks.due("told(3)", x.told(3), 992);
        checks.due("guard(0, false): writes 993 to 1000", x.guard(0, false), 8);
        checks.due("told(3)", x.told(3), 1000);
        checks.due("guard(0, true): write 1001", x.guard(0, true), -9);
        checks.due("told(3)", x.told(3), 1000);
        checks.due("entry 0", x.disk(5), 32);
        powerThatLasts();
    }

    private void powerThatLasts() {
        checks.sentence("Promise 1: power lasts; Promise 2: Power is back and lasts");
        RecordSystem x = Disks.wanting("??????");
        for (int entry = 0; entry < 32; entry++) {
            x.make(1);
        }
        for (int i = 0; i < 40; i++) {
            checks.due("guard(0, true)", x.guard(0, true), 32);
        }
        checks.due("told(3) of a new object", x.told(3), 1312);
        x.power(0);
        x.login(0);
        for (int i = 0; i < 40; i++) {
            checks.due("guard(0, true)", x.guard(0, true), 32);
        }
        checks.due("told(3) behind a login", x.told(3), 1280);
    }

    private void callsThatWouldWrite() {
        checks.sentence("calls that would write answer POWERLESS (-9)");
        RecordSystem x = oneFile();
        x.power(0);
        checks.due("write(0)", x.write(0), -9);
        checks.due("at(0, 27, true)", x.at(0, 27, true), -9);
        checks.due("at(0, 28, true)", x.at(0, 28, true), -9);
        checks.due("at(0, 28, false), which would close", x.at(0, 28, false), -9);
        x.at(0, 27, false);
        x.read(0);
        checks.due("read(0) at place 28, which would close", x.read(0), -9);
        checks.due("write(0) at place 28", x.write(0), -9);
        checks.due("guard(1, true)", x.guard(1, true), -9);
        checks.due("guard(1, false)", x.guard(1, false), -9);
        checks.due("rename(1, 2)", x.rename(1, 2), -9);
        checks.due("erase(1)", x.erase(1), -9);
        checks.due("close(0)", x.close(0), -9);
        checks.due("make(2)", x.make(2), -9);
    }

    /** A put into a new stretch takes three writes: the old entry, the new entry, the record. */
    private void callsThatBeganWell() {
        checks.sentence("answer POWERLESS (-9), also those that began well");
        String[] control = {"1 0 28 0 8 9 10 11 12 13 14", "1 1 0 0 0 0 0 0 0 0 0", "1 1 0 0 15 0 0 0 0 0 0",
            "1 1 3 2 15 0 0 0 0 0 0"};
        for (int power = 0; power <= 3; power++) {
            String told = "with power for " + power + ": ";
            RecordSystem x = oneFile();
            x.spoil(8, 1);
            x.set(0, 71);
            x.power(power);
            checks.due(told + "at(0, 30, true)", x.at(0, 30, true), power < 3 ? -9 : 0);
            checks.same(told + "control 0", Disks.control(x, 0), control[power]);
            checks.due(told + "count of the old entry", x.disk(8), power < 1 ? 1 : 28);
            checks.due(told + "user of the new entry", x.disk(16), power < 2 ? 229 : 0);
            checks.due(told + "the record", x.disk(15 * 64 + 32), power < 3 ? 0 : 71);
            checks.due(told + "told(0)", x.told(0), power < 2 ? 49 : 48);
            checks.due(told + "told(3)", x.told(3), power);
        }
        writeThatBeganWell();
    }

    private void writeThatBeganWell() {
        int[] place = {28, 0, 0, 1};
        for (int power = 0; power <= 3; power++) {
            RecordSystem x = oneFile();
            x.at(0, 27, false);
            x.read(0);
            x.power(power);
            checks.due("write(0) with power for " + power, x.write(0), power < 3 ? -9 : 0);
            checks.due("place", x.has(0, 3), place[power]);
            checks.due("stretch", x.has(0, 1), power < 1 ? 0 : 1);
            checks.due("block", x.has(0, 4), power < 1 ? 8 : power < 2 ? 0 : 15);
        }
    }

    private void whatWasDoneInControlsStays() {
        checks.sentence("what they did before in controls stays");
        RecordSystem x = oneFile();
        x.power(0);
        checks.due("make(2)", x.make(2), -9);
        checks.same("control 2", Disks.control(x, 2), "1 0 0 0 0 0 0 0 0 0 0");
        checks.due("at(2, 9, true)", x.at(2, 9, true), -9);
        checks.same("control 2, with a block", Disks.control(x, 2), "1 0 0 0 0 0 15 0 0 0 0");
        checks.due("at(2, 10, true)", x.at(2, 10, true), -9);
        checks.due("told(0): one block was given, once", x.told(0), 48);
        checks.due("close(0)", x.close(0), -9);
        checks.due("has(0, 0)", x.has(0, 0), 0);
    }

    private void whatWasDoneToWhatIsTakenStays() {
        checks.sentence("what they did before to what is taken stays");
        RecordSystem x = oneFile();
        x.power(0);
        checks.due("told(0)", x.told(0), 49);
        checks.due("erase(1)", x.erase(1), -9);
        checks.due("told(0): given back all the same", x.told(0), 56);
        checks.due("the entry isn't free", x.disk(0), 0);
        checks.due("make(2)", x.make(2), -9);
        checks.due("write(2)", x.write(2), -9);
        checks.due("has(2, 4): a block that an entry tells", x.has(2, 4), 8);
        checks.due("told(0): given all the same", x.told(0), 55);
        checks.due("login(0)", x.login(0), 49);
    }

    private void callsThatOnlyRead() {
        checks.sentence("(Calls that only read go on.)");
        RecordSystem x = oneFile();
        x.spoil(512, 31);
        x.power(0);
        checks.due("make(2), so that power is missed", x.make(2), -9);
        checks.due("open(1)", x.open(1), 0);
        checks.due("read(1)", x.read(1), 0);
        checks.due("buffer(0)", x.buffer(0), 31);
        checks.due("at(1, 27, false)", x.at(1, 27, false), 0);
        checks.due("search(1, 0)", x.search(1, 0), 0);
        checks.due("size(1)", x.size(1), 28);
        checks.due("has(1, 3)", x.has(1, 3), 27);
        checks.due("disk(512)", x.disk(512), 31);
        checks.due("told(0)", x.told(0), 49);
        checks.due("told(1)", x.told(1), 0);
        checks.due("told(2)", x.told(2), 31);
        checks.due("set(0, 5)", x.set(0, 5), 0);
        x.name(1, Disks.name("B     "));
        checks.due("has(1, 0) behind a name", x.has(1, 0), 0);
        x.spoil(512, 32);
        checks.due("disk(512) behind a spoil", x.disk(512), 32);
    }

    private void callsThatWriteNothing() {
        checks.sentence("calls that would write answer POWERLESS (-9) (and no others)");
        RecordSystem x = oneFile();
        x.power(0);
        checks.due("open(2), which finds nothing", x.open(2), -1);
        checks.due("close(2), not open", x.close(2), -1);
        checks.due("erase(2), which finds nothing", x.erase(2), -1);
        checks.due("rename(2, 0), which finds nothing", x.rename(2, 0), -1);
        checks.due("guard(2, true), which finds nothing", x.guard(2, true), -1);
        checks.due("at(0, 448, true), no such stretch", x.at(0, 448, true), -2);
        Disks.readOnly(x, 0);
        checks.due("erase(1), read only", x.erase(1), -3);
        checks.due("rename(1, 2), read only", x.rename(1, 2), -3);
        x.open(1);
        checks.due("write(1), read only", x.write(1), -3);
        checks.due("told(0)", x.told(0), 49);
    }

    private void powerBackByLogin() {
        checks.sentence("Logging in brings power back.");
        RecordSystem x = oneFile();
        x.power(0);
        checks.due("make(2)", x.make(2), -9);
        x.login(0);
        checks.due("make(2), behind a login", x.make(2), 1);
        x.power(2);
        x.login(0);
        for (int i = 0; i < 5; i++) {
            checks.due("guard(1, true), with more than power was for", x.guard(1, true), 1);
        }
    }

    private void powerSetAnew() {
        checks.sentence("Promise 3: Power lasts for n more writes. (set anew)");
        RecordSystem x = oneFile();
        x.power(5);
        x.power(1);
        checks.due("at(0, 0, true)", x.at(0, 0, true), 0);
        checks.due("at(0, 0, true), one too many", x.at(0, 0, true), -9);
        x.power(2);
        checks.due("at(0, 0, true), power set anew", x.at(0, 0, true), 0);
        x.power(2);
        checks.due("at(0, 0, true)", x.at(0, 0, true), 0);
        checks.due("at(0, 0, true)", x.at(0, 0, true), 0);
        checks.due("at(0, 0, true), 2 from there, not 3", x.at(0, 0, true), -9);
        x.power(0);
        checks.due("at(0, 0, true), power(0)", x.at(0, 0, true), -9);
    }

    private void writesThatWereDone() {
        checks.sentence("Promise 21: writes that were done since the last login or power, or the beginning (3)");
        RecordSystem x = Disks.wanting("A     ");
        checks.due("told(3) at the beginning", x.told(3), 0);
        x.make(0);
        checks.due("told(3) behind a make", x.told(3), 1);
        x.spoil(4000, 3);
        x.open(0);
        checks.due("told(3): a spoil or an open is none", x.told(3), 1);
        x.login(0);
        checks.due("told(3) behind a login", x.told(3), 0);
        x.make(0);
        x.make(0);
        x.power(1);
        checks.due("told(3) behind power", x.told(3), 0);
        x.make(0);
        checks.due("told(3), the last one", x.told(3), 1);
        x.make(0);
        checks.due("told(3), a lost one", x.told(3), 1);
        x.power(0);
        checks.due("told(3) behind power(0)", x.told(3), 0);
    }

    private void findNothing() {
        checks.sentence("CALLS answer NONE if they find nothing");
        RecordSystem x = oneFile();
        checks.due("open(2)", x.open(2), -1);
        checks.due("erase(2)", x.erase(2), -1);
        checks.due("rename(2, 1)", x.rename(2, 1), -1);
        checks.due("guard(2, true)", x.guard(2, true), -1);
        checks.due("guard(2, false)", x.guard(2, false), -1);
        checks.due("search(2, 0)", x.search(2, 0), -1);
        checks.due("search(1, 1)", x.search(1, 1), -1);
        checks.due("size(2), which says 0 for that", x.size(2), 0);
        x.erase(1);
        checks.due("close(0)", x.close(0), -1);
        checks.due("told(3)", x.told(3), 1);
    }
}
