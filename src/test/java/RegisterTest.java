/** Promises 4 and 5: the registers of the devices, their status, reset and ready queues. */
public final class RegisterTest {
    private static final Check CHECK = new Check();
    private static final int[] BASES = {Driver.DISK, Driver.CONSOLE};

    public static void main(String[] args) {
        for (int base : BASES) {
            features(base);
            queueNumbers(base);
            statusBits(base);
            featuresDecide(base);
            readyConditions(base);
            readyHolds(base);
            reset(base);
            resetOfWhatIsWritten(base);
            readOnly(base);
        }
        CHECK.end();
    }

    private static void features(int base) {
        VirtioMachine m = new VirtioMachine();
        int[] selects = {0, 1 << 28, 1, 1, 2, 0, -1, 0, 32, 0};
        for (int k = 0; k < selects.length; k += 2) {
            m.out(base + 20, selects[k]);
            CHECK.due("features " + selects[k], m.in(base + 16), selects[k + 1]);
            CHECK.due("select is read as 0", m.in(base + 20), 0);
        }
    }

    private static void queueNumbers(int base) {
        VirtioMachine m = new VirtioMachine();
        int queues = base == Driver.DISK ? 1 : 2;
        for (int number : new int[] {0, 1, 2, 3, 8, -1, Integer.MIN_VALUE}) {
            boolean there = number >= 0 && number < queues;
            m.out(base + 48, number);
            CHECK.due("most of " + number, m.in(base + 52), there ? 8 : 0);
            m.out(base + 56, 2);
            m.out(base + 128, 1024);
            m.out(base + 144, 1056);
            m.out(base + 160, 1064);
            m.out(base + 68, 1);
            due("ready of " + number, m.in(base + 68), there);
        }
        m.out(base + 48, 0);
        CHECK.due("ready of 0", m.in(base + 68), 1);
    }

    private static void due(String what, int got, boolean want) {
        CHECK.due(what, got, want ? 1 : 0);
    }

    private static void accept(VirtioMachine m, int base, int low, int high) {
        m.out(base + 36, 0);
        m.out(base + 32, low);
        m.out(base + 36, 1);
        m.out(base + 32, high);
    }

    private static void statusBits(int base) {
        int[][] writes = {{1, 1}, {2, 2}, {4, 0}, {8, 0}, {64, 0}, {128, 128}, {16 + 32, 0}, {256, 0}, {15, 15},
            {7, 3}, {9, 1}, {10, 2}, {11, 11}, {12, 0}, {-1, 143}, {13, 1}};
        for (int[] w : writes) {
            VirtioMachine m = new VirtioMachine();
            accept(m, base, 0, 1);
            m.out(base + 112, w[0]);
            CHECK.due("status written " + w[0], m.in(base + 112), w[1]);
        }
        VirtioMachine m = new VirtioMachine();
        accept(m, base, 1 << 28, 1);
        int[] steps = {2, 2, 8, 2, 1, 3, 4, 3, 8, 11, 64, 11, 4, 15, 1, 15, 256, 15, 128, 143, 0, 0, 4, 0};
        for (int k = 0; k < steps.length; k += 2) {
            m.out(base + 112, steps[k]);
            CHECK.due("status then written " + steps[k], m.in(base + 112), steps[k + 1]);
        }
    }

    private static void featuresDecide(int base) {
        int[][] cases = {{0, 1, 15}, {1 << 28, 1, 15}, {0, 0, 3}, {1 << 28, 0, 3}, {1, 1, 3}, {1 << 29, 1, 3},
            {0, 3, 3}, {0, 2, 3}, {-1, 1, 3}, {1 << 28, -1, 3}};
        for (int[] c : cases) {
            VirtioMachine m = new VirtioMachine();
            accept(m, base, c[0], c[1]);
            for (int select : new int[] {2, -1, 1 << 31}) {
                m.out(base + 36, select);
                m.out(base + 32, 12345);
            }
            m.out(base + 112, 15);
            CHECK.due("status with " + c[0] + ", " + c[1], m.in(base + 112), c[2]);
            accept(m, base, 0, 0);
            CHECK.due("status stays", m.in(base + 112), c[2]);
            CHECK.due("accepted is read as 0", m.in(base + 32) | m.in(base + 36), 0);
        }
    }

    private static boolean ready(int base, int size, int table, int available, int used) {
        VirtioMachine m = new VirtioMachine();
        m.out(base + 56, size);
        m.out(base + 128, table);
        m.out(base + 144, available);
        m.out(base + 160, used);
        m.out(base + 68, 1);
        return m.in(base + 68) == 1;
    }

    private static void readyConditions(int base) {
        for (int size = -8; size <= 17; size++) {
            boolean fine = size == 2 || size == 4 || size == 8;
            CHECK.due("size " + size, ready(base, size, 0, 256, 512), fine);
        }
        CHECK.due("size", ready(base, 65538, 0, 256, 512), false);
        for (int size : new int[] {2, 4, 8}) {
            int table = 4096 - 16 * size;
            int available = 4096 - 4 - 2 * size;
            int used = 4096 - 4 - 8 * size;
            CHECK.due("at the end of RAM", ready(base, size, table, available, used), true);
            CHECK.due("all in one place", ready(base, size, 0, 0, 0), true);
            CHECK.due("descriptors beyond", ready(base, size, table + 16, available, used), false);
            CHECK.due("available beyond", ready(base, size, table, available + 2, used), false);
            CHECK.due("used beyond", ready(base, size, table, available, used + 4), false);
            for (int a : new int[] {-16, 4096, 8192, Integer.MIN_VALUE, 0x7FFFFFF0}) {
                CHECK.due("descriptors outside", ready(base, size, a, 0, 0), false);
                CHECK.due("available outside", ready(base, size, 0, a, 0), false);
                CHECK.due("used outside", ready(base, size, 0, 0, a), false);
            }
            for (int k = 1; k < 16; k++) {
                CHECK.due("descriptors misaligned", ready(base, size, 64 + k, 256, 512), false);
                CHECK.due("available misaligned", ready(base, size, 64, 256 + k, 512), k % 2 == 0);
                CHECK.due("used misaligned", ready(base, size, 64, 256, 512 + k), k % 4 == 0);
            }
        }
    }

    private static void readyHolds(int base) {
        VirtioMachine m = new VirtioMachine();
        m.out(base + 56, 2);
        m.out(base + 68, -2);
        due("bit 0 alone counts", m.in(base + 68), false);
        m.out(base + 68, 3);
        due("bit 0 alone counts", m.in(base + 68), true);
        m.out(base + 56, 3);
        m.out(base + 128, 1);
        m.out(base + 144, 1);
        m.out(base + 160, 1);
        m.out(base + 68, 0);
        due("ready", m.in(base + 68), false);
        m.out(base + 68, 1);
        due("what was written while ready does nothing", m.in(base + 68), true);
        m.out(base + 68, 2);
        due("bit 0 alone counts", m.in(base + 68), false);
        m.out(base + 56, 3);
        m.out(base + 68, 1);
        due("what was written then counts", m.in(base + 68), false);
    }

    private static void reset(int base) {
        VirtioMachine m = new VirtioMachine();
        Driver.wake(m, base, true);
        m.out(base + 20, 1);
        new Driver(m, base, base == Driver.DISK ? 0 : 1, 2).offer(9);
        m.serve();
        CHECK.due("status", m.in(base + 112), 79);
        CHECK.due("interrupts", m.in(base + 96), 2);
        m.out(base + 112, 15);
        CHECK.due("64 stays", m.in(base + 112), 79);
        m.out(base + 112, 0);
        CHECK.due("status", m.in(base + 112), 0);
        CHECK.due("interrupts", m.in(base + 96), 0);
        CHECK.due("select", m.in(base + 16), 1 << 28);
        due("ready", m.in(base + 68), false);
        m.out(base + 48, 1);
        due("ready", m.in(base + 68), false);
        m.out(base + 48, 0);
        m.out(base + 68, 1);
        due("the size is 0", m.in(base + 68), false);
        m.out(base + 112, 15);
        CHECK.due("no features are accepted", m.in(base + 112), 3);
        m.out(base + 32, 1 << 28);
        m.out(base + 36, 1);
        m.out(base + 32, 1);
        m.out(base + 112, 15);
        CHECK.due("the features are accepted", m.in(base + 112), 15);
    }

    private static void resetOfWhatIsWritten(int base) {
        VirtioMachine m = new VirtioMachine();
        m.out(base + 36, 0);
        m.out(base + 32, 1);
        for (int offset : new int[] {128, 144, 160, 36}) {
            m.out(base + offset, 1);
        }
        m.out(base + 48, 5);
        m.out(base + 112, 0);
        CHECK.due("queue 0 is named", m.in(base + 52), 8);
        m.out(base + 56, 2);
        m.out(base + 68, 1);
        due("the places are 0", m.in(base + 68), true);
        m.out(base + 32, 2);
        m.out(base + 36, 1);
        m.out(base + 32, 1);
        m.out(base + 112, 15);
        CHECK.due("the select for 32 was 0", m.in(base + 112), 3);
        VirtioMachine n = new VirtioMachine();
        accept(n, base, 1, 0);
        n.out(base + 112, 0);
        n.out(base + 36, 1);
        n.out(base + 32, 1);
        n.out(base + 112, 15);
        CHECK.due("no low features were accepted", n.in(base + 112), 15);
    }

    private static void readOnly(int base) {
        VirtioMachine m = new VirtioMachine();
        int[] readOnly = {0, 4, 8, 12, 16, 52, 80, 96, 164, 168, 252, 256};
        for (int offset : readOnly) {
            int before = m.in(base + offset);
            m.out(base + offset, -1);
            CHECK.due("written " + offset, m.in(base + offset), before);
        }
        m.out(base + 48, 0);
        for (int offset : new int[] {20, 32, 36, 48, 56, 80, 100, 128, 144, 160}) {
            m.out(base + offset, 1);
            CHECK.due("read " + offset, m.in(base + offset), 0);
        }
    }
}
