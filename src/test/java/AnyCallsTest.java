import java.util.Random;

/** All promises: whatever is called, only what the document names is thrown, and the same calls answer the same. */
public final class AnyCallsTest {
    private static final Check CHECK = new Check();
    private static final int OBJECTS = 300;
    private static final int CALLS = 350;
    private static final int OTHER = 1 << 20;

    public static void main(String[] args) {
        for (int seed = 0; seed < OBJECTS; seed++) {
            long first = play(seed);
            CHECK.due("the same calls on another object, seed " + seed, play(seed), first);
        }
        CHECK.end();
    }

    private static long play(int seed) {
        Random random = new Random(seed);
        VirtioMachine m = new VirtioMachine();
        if (random.nextBoolean()) {
            Driver.wake(m, Driver.DISK, true);
            new Driver(m, Driver.DISK, 0, 2 << random.nextInt(3));
        }
        if (random.nextBoolean()) {
            Driver.wake(m, Driver.CONSOLE, true);
            new Driver(m, Driver.CONSOLE, 0, 2 << random.nextInt(3));
            new Driver(m, Driver.CONSOLE, 1, 2 << random.nextInt(3));
        }
        long sum = 0;
        for (int k = 0; k < CALLS; k++) {
            sum = sum * 31 + call(m, random);
        }
        return sum;
    }

    private static int address(Random random) {
        switch (random.nextInt(8)) {
            case 0: return random.nextInt();
            case 1: return 4096 + 4 * random.nextInt(9);
            case 2: return 8192 + 4 * random.nextInt(67);
            case 3: return 12288 + 4 * random.nextInt(67);
            case 4: return random.nextInt(20000);
            case 5: return 1024 + 4 * random.nextInt(256);
            default: return 4 * random.nextInt(1024);
        }
    }

    private static int word(Random random) {
        switch (random.nextInt(8)) {
            case 0: return random.nextInt();
            case 1: return 1 << random.nextInt(32);
            case 2: return random.nextInt(8) | random.nextInt(8) << 16;
            case 3: return random.nextInt(64);
            case 4: return Asm.load(random.nextInt(8), random.nextInt(32), random.nextInt(32), random.nextInt(4096));
            case 5: return Asm.store(random.nextInt(4), random.nextInt(32), random.nextInt(32), random.nextInt(4096));
            case 6: return Asm.r(random.nextInt(3), random.nextInt(32), random.nextInt(32), random.nextInt(8),
                random.nextInt(32), random.nextBoolean() ? 0x33 : 0x73);
            default: return 16 * random.nextInt(257);
        }
    }

    private static long call(VirtioMachine m, Random random) {
        int which = random.nextInt(16);
        int a = address(random);
        int b = word(random);
        try {
            return answer(m, which, a, b);
        } catch (RuntimeException e) {
            boolean argument = e.getClass() == IllegalArgumentException.class && which >= 3 && which <= 7;
            boolean bounds = e.getClass() == IndexOutOfBoundsException.class && which >= 4;
            CHECK.due("call " + which + " of " + a + " may throw " + e, argument || bounds, true);
            return OTHER;
        }
    }

    private static long answer(VirtioMachine m, int which, int a, int b) {
        switch (which) {
            case 0: case 1: case 2: return m.poke(a, b) ? 1 : 0;
            case 3: return m.peek(a);
            case 4: case 5: return m.in(a);
            case 6: case 7: m.out(a, b); return 0;
            case 8: return m.register(a & 63);
            case 9: return m.csr(768 + (a & 127));
            case 10: return m.printed((a & 127) - 2);
            case 11: return m.disk((a & 511) - 10);
            default: return free(m, which, a, b);
        }
    }

    /** The calls that throw nothing at all. */
    private static long free(VirtioMachine m, int which, int a, int b) {
        try {
            switch (which) {
                case 12: return m.run(b) * 2 + (m.waits() ? 1 : 0);
                case 13: m.serve(); return m.run(Math.floorMod(b, 101));
                case 14: return m.jump(a) ? 1 : 0;
                default: return m.key(b);
            }
        } catch (RuntimeException e) {
            CHECK.due("call " + which + " of " + a + ", " + b + " throws " + e, true, false);
            return OTHER;
        }
    }
}
