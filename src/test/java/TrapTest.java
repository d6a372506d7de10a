/** Promises 6, 8, 10 and 11: traps, CSRs, waiting and interrupts. */
public final class TrapTest {
    private static final Check CHECK = new Check();
    private static final int INTERRUPT = -2147483637;

    public static void main(String[] args) {
        csrWrites();
        csrBitsThatAreNotNamed();
        csrSwapInOneRegister();
        trapState();
        fetchOutsideRam();
        trapsAreNotCounted();
        returns();
        waiting();
        interrupt();
        interruptComesFirst();
        waitEndsWithoutTrap();
        CHECK.end();
    }

    private static void csrWrites() {
        VirtioMachine m = new VirtioMachine();
        Asm.set(m, 1, 0x0F0F0F0F, 0);
        Asm.set(m, 2, 0x00FF00FF, 0);
        Asm.put(m, 0, Asm.csr(1, 3, 832, 1), Asm.csr(2, 4, 832, 2), Asm.csr(3, 5, 832, 1), Asm.csr(5, 6, 832, 21),
            Asm.csr(6, 7, 832, 10), Asm.csr(7, 8, 832, 17), Asm.csr(2, 9, 832, 0), Asm.csr(1, 0, 832, 0),
            Asm.csr(6, 10, 832, 0));
        int[] values = {0x0F0F0F0F, 0x0FFF0FFF, 0x00F000F0, 21, 31, 14, 14, 0, 0};
        int old = 0;
        for (int k = 0; k < values.length; k++) {
            CHECK.due("csr instruction " + k, m.run(1), 1);
            CHECK.due("mscratch " + k, m.csr(832), values[k]);
            if (k != 7) {
                CHECK.due("old value " + k, m.register(k == 8 ? 10 : 3 + k), old);
            }
            old = values[k];
        }
    }

    private static void csrBitsThatAreNotNamed() {
        int[] numbers = {768, 0x88, 772, 0x800, 773, -4, 832, -1, 833, -4, 834, -1, 836, 0};
        for (int k = 0; k < numbers.length; k += 2) {
            VirtioMachine m = new VirtioMachine();
            Asm.put(m, 0, Asm.addi(1, 0, -1), Asm.csr(1, 2, numbers[k], 1), Asm.csr(2, 3, numbers[k], 0),
                Asm.csr(3, 4, numbers[k], 1), Asm.csr(2, 5, numbers[k], 1));
            CHECK.due("run", m.run(3), 3);
            CHECK.due("csr " + numbers[k], m.csr(numbers[k]), numbers[k + 1]);
            CHECK.due("read again " + numbers[k], m.register(3), numbers[k + 1]);
            m.run(1);
            CHECK.due("cleared " + numbers[k], m.csr(numbers[k]), 0);
            m.run(1);
            CHECK.due("set " + numbers[k], m.csr(numbers[k]), numbers[k + 1]);
        }
    }

    private static void csrSwapInOneRegister() {
        VirtioMachine m = new VirtioMachine();
        Asm.put(m, 0, Asm.csr(5, 0, 832, 9), Asm.addi(1, 0, 4), Asm.csr(1, 1, 832, 1));
        m.run(3);
        CHECK.due("x1", m.register(1), 9);
        CHECK.due("mscratch", m.csr(832), 4);
    }

    private static void trapState() {
        for (int before : new int[] {0, 8, 0x80, 0x88}) {
            VirtioMachine m = new VirtioMachine();
            Asm.put(m, 0, Asm.addi(1, 0, before), Asm.csr(1, 0, 768, 1), Asm.addi(2, 0, 259), Asm.csr(1, 0, 773, 2),
                Asm.ECALL);
            CHECK.due("run", m.run(5), 4);
            CHECK.due("mstatus after " + before, m.csr(768), (before & 8) != 0 ? 0x80 : 0);
            CHECK.due("mepc", m.csr(833), 16);
            CHECK.due("mcause", m.csr(834), 11);
            CHECK.due("pc", m.register(32), 256);
            CHECK.due("mtvec", m.csr(773), 256);
        }
    }

    private static void fetchOutsideRam() {
        for (int pc : new int[] {4096, 4100, 8192, -4, Integer.MIN_VALUE}) {
            VirtioMachine m = new VirtioMachine();
            m.poke(0, Asm.NOP);
            m.jump(pc);
            CHECK.due("run at " + pc, m.run(1), 0);
            CHECK.due("cause", m.csr(834), 1);
            CHECK.due("mepc", m.csr(833), pc);
            CHECK.due("pc", m.register(32), 0);
        }
        VirtioMachine m = new VirtioMachine();
        m.poke(4092, Asm.NOP);
        m.jump(4092);
        CHECK.due("the last word of RAM", m.run(2), 1);
        CHECK.due("cause", m.csr(834), 1);
        CHECK.due("mepc", m.csr(833), 4096);
    }

    private static void trapsAreNotCounted() {
        VirtioMachine m = new VirtioMachine();
        Asm.put(m, 0, Asm.addi(1, 1, 1), Asm.ECALL);
        CHECK.due("run 9", m.run(9), 5);
        CHECK.due("x1", m.register(1), 5);
    }

    private static void returns() {
        for (int before : new int[] {0, 8, 0x80, 0x88}) {
            VirtioMachine m = new VirtioMachine();
            Asm.put(m, 0, Asm.addi(1, 0, before), Asm.csr(1, 0, 768, 1), Asm.addi(2, 0, 771), Asm.csr(1, 0, 833, 2),
                Asm.MRET);
            CHECK.due("run", m.run(5), 5);
            CHECK.due("mstatus after " + before, m.csr(768), (before & 0x80) != 0 ? 0x88 : 0x80);
            CHECK.due("pc", m.register(32), 768);
        }
    }

    private static void waiting() {
        VirtioMachine m = new VirtioMachine();
        Asm.put(m, 0, Asm.WFI, Asm.addi(1, 1, 1));
        CHECK.due("run", m.run(50), 1);
        CHECK.due("waits", m.waits(), true);
        CHECK.due("pc", m.register(32), 4);
        CHECK.due("x1", m.register(1), 0);
        m.jump(4);
        CHECK.due("waits", m.waits(), false);
        CHECK.due("run", m.run(1), 1);
        CHECK.due("x1", m.register(1), 1);
    }

    /** A bad chain of the disk makes its source pending; MSTATUS and MIE become what is said. */
    private static VirtioMachine withPendingDisk(int mstatus, int mie) {
        VirtioMachine m = new VirtioMachine();
        Driver.disk(m).offer(99);
        m.out(4100, 1);
        m.out(4116, 2);
        Asm.set(m, 1, mie, 0);
        Asm.put(m, 512, Asm.csr(1, 0, 772, 1), Asm.csr(5, 0, 773, 28), Asm.csr(5, 0, 768, mstatus));
        m.jump(512);
        m.run(3);
        return m;
    }

    private static void interrupt() {
        VirtioMachine m = withPendingDisk(8, 0x800);
        CHECK.due("line", m.csr(836), 0x800);
        CHECK.due("run", m.run(1), 0);
        CHECK.due("cause", m.csr(834), INTERRUPT);
        CHECK.due("mepc", m.csr(833), 524);
        CHECK.due("mstatus", m.csr(768), 0x80);
        CHECK.due("pc", m.register(32), 28);
        m.poke(28, Asm.MRET);
        CHECK.due("mret", m.run(1), 1);
        CHECK.due("interrupted again", m.run(1), 0);
        CHECK.due("cause", m.csr(834), INTERRUPT);
        VirtioMachine off = withPendingDisk(0, 0x800);
        off.poke(524, Asm.addi(5, 0, 5));
        CHECK.due("MSTATUS holds it back", off.run(1), 1);
        VirtioMachine masked = withPendingDisk(8, 0);
        masked.poke(524, Asm.addi(5, 0, 5));
        CHECK.due("MIE holds it back", masked.run(1), 1);
        VirtioMachine disabled = withPendingDisk(8, 0x800);
        disabled.out(4116, 4);
        disabled.poke(524, Asm.addi(5, 0, 5));
        CHECK.due("no line", disabled.csr(836), 0);
        CHECK.due("the controller holds it back", disabled.run(1), 1);
    }

    private static void interruptComesFirst() {
        VirtioMachine m = withPendingDisk(8, 0x800);
        m.jump(4096);
        CHECK.due("run", m.run(1), 0);
        CHECK.due("cause", m.csr(834), INTERRUPT);
        CHECK.due("mepc", m.csr(833), 4096);
    }

    private static void waitEndsWithoutTrap() {
        VirtioMachine m = withPendingDisk(0, 0x800);
        Asm.put(m, 524, Asm.WFI, Asm.addi(5, 0, 5));
        CHECK.due("run", m.run(1), 1);
        CHECK.due("waits, though a bit is in both", m.waits(), true);
        CHECK.due("run", m.run(1), 1);
        CHECK.due("waits", m.waits(), false);
        CHECK.due("x5", m.register(5), 5);
        VirtioMachine masked = withPendingDisk(8, 0);
        Asm.put(masked, 524, Asm.WFI, Asm.addi(5, 0, 5));
        CHECK.due("run", masked.run(9), 1);
        CHECK.due("waits for a bit in both", masked.waits(), true);
        VirtioMachine trapped = withPendingDisk(8, 0);
        Asm.put(trapped, 524, Asm.csr(1, 0, 772, 7), Asm.WFI);
        Asm.set(trapped, 6, 0x800, 528);
        trapped.poke(528, Asm.WFI);
        CHECK.due("run", trapped.run(1), 1);
        trapped.out(4116, 0);
        CHECK.due("no line", trapped.run(5), 0);
        trapped.out(4116, 2);
        CHECK.due("MIE is 0", trapped.run(5), 0);
        CHECK.due("waits", trapped.waits(), true);
    }
}
