import java.util.Random;

/**
 * Calls without a plan on disks without sense: none may throw anything but what the document names for it,
 * and the same calls on another object answer the same.
 */
public final class AnyCallsTest {
    private static final int RUNS = 600;
    private static final int CALLS = 420;
    // Looking at the bounds takes calls, too, and an object answers for 512 in all.
    private static final int LOOKS_EVERY = 60;
    private static final String[] NAMES = {"A     ", "AB    ", "A?    ", "??????", "      "};

    private final Checks checks = new Checks();

    public static void main(String[] args) {
        new AnyCallsTest().run();
    }

    private void run() {
        for (int seed = 0; seed < RUNS; seed++) {
            long first = play(seed);
            checks.due("run " + seed + " played again", play(seed), first);
        }
        checks.finish();
    }

    private long play(int seed) {
        Random random = new Random(seed);
        RecordSystem x = new RecordSystem();
        long sum = 0;
        for (int i = 0; i < CALLS; i++) {
            long answer;
            try {
                answer = call(x, random, random.nextInt(30));
            } catch (IndexOutOfBoundsException | IllegalArgumentException e) {
                // A fault of the program's own would come as a class below these, or with the machine's words.
                boolean isThrown = e.getMessage() == null
                    && (e.getClass() == IndexOutOfBoundsException.class
                        || e.getClass() == IllegalArgumentException.class);
                checks.holds("run " + seed + ", call " + i + " threw " + e, isThrown);
                answer = -100;
            }
            if (i % LOOKS_EVERY == LOOKS_EVERY - 1) {
                checkBounds(x, seed, i);
            }
            sum = sum * 31 + answer;
        }
        return sum;
    }

    private static long call(RecordSystem x, Random random, int kind) {
        int c = random.nextInt(40) == 0 ? 4 : random.nextInt(2);
        switch (kind) {
            case 0: return random.nextInt(4) == 0 ? x.login(random.nextInt(3)) : x.told(3);
            case 1: return power(x, random);
            case 2: x.name(c, Disks.name(NAMES[random.nextInt(NAMES.length)])); return 0;
            case 3: case 4: return x.open(c);
            case 5: case 6: return x.make(c);
            case 7: return x.close(c);
            case 8: return random.nextInt(3) == 0 ? x.erase(c) : x.size(c);
            case 9: return x.rename(c, random.nextInt(4));
            case 10: return x.guard(c, random.nextInt(4) == 0);
            case 11: return x.search(c, random.nextInt(33));
            case 12: case 13: return x.read(c);
            case 14: case 15: case 16: return x.write(c);
            case 17: case 18: case 19: return x.at(c, random.nextInt(460), random.nextBoolean());
            case 20: return x.at(c, 27 + 28 * random.nextInt(17), true);
            case 21: return x.set(random.nextInt(17), random.nextInt(257));
            case 22: return x.buffer(random.nextInt(2));
            case 23: return x.has(c, random.nextInt(12));
            case 24: case 25: x.spoil(random.nextInt(512), random.nextInt(256)); return 0;
            case 26: x.spoil(16 * random.nextInt(32), random.nextInt(3)); return 0;
            case 27: return x.disk(random.nextInt(4097));
            case 28: return x.at(c, random.nextInt(100002) - 1, random.nextBoolean());
            default: return x.told(random.nextInt(5));
        }
    }

    private static long power(RecordSystem x, Random random) {
        if (random.nextInt(3) == 0) {
            x.power(random.nextInt(20));
        }
        return x.told(3);
    }

    private void checkBounds(RecordSystem x, int seed, int i) {
        boolean isSound = x.told(0) >= 0 && x.told(0) <= 56 && x.told(2) >= 0 && x.told(2) <= 32;
        for (int c = 0; c < 2; c++) {
            isSound &= x.has(c, 1) <= 15 && x.has(c, 3) <= 28 && x.has(c, 2) <= 255;
        }
        checks.holds("run " + seed + ", call " + i + " leaves all in its bounds", isSound);
    }
}
