import java.math.BigInteger;

/** Promise 6: what each instruction of RV32IM does, and which words are illegal. */
public final class InstructionTest {
    private static final Check CHECK = new Check();
    private static final int[] WORDS = {0, 1, -1, 2, 7, -3, 31, 32, 33, 2047, -2048, 65535, 0x12345678, 0x80000001,
        Integer.MAX_VALUE, Integer.MIN_VALUE};

    public static void main(String[] args) {
        operations();
        immediates();
        upperImmediates();
        branches();
        jumps();
        loads();
        stores();
        legality();
        systemWords();
        CHECK.end();
    }

    private static BigInteger signed(int a) {
        return BigInteger.valueOf(a);
    }

    private static BigInteger unsigned(int a) {
        return BigInteger.valueOf(Integer.toUnsignedLong(a));
    }

    private static int plain(int funct3, int a, int b) {
        switch (funct3) {
            case 0: return signed(a).add(signed(b)).intValue();
            case 1: return unsigned(a).shiftLeft(b & 31).intValue();
            case 2: return signed(a).compareTo(signed(b)) < 0 ? 1 : 0;
            case 3: return unsigned(a).compareTo(unsigned(b)) < 0 ? 1 : 0;
            case 4: return signed(a).xor(signed(b)).intValue();
            case 5: return unsigned(a).shiftRight(b & 31).intValue();
            case 6: return signed(a).or(signed(b)).intValue();
            default: return signed(a).and(signed(b)).intValue();
        }
    }

    private static int other(int funct3, int a, int b) {
        return funct3 == 0 ? signed(a).subtract(signed(b)).intValue() : signed(a).shiftRight(b & 31).intValue();
    }

    private static int multiplied(int funct3, int a, int b) {
        switch (funct3) {
            case 0: return signed(a).multiply(signed(b)).intValue();
            case 1: return signed(a).multiply(signed(b)).shiftRight(32).intValue();
            case 2: return signed(a).multiply(unsigned(b)).shiftRight(32).intValue();
            case 3: return unsigned(a).multiply(unsigned(b)).shiftRight(32).intValue();
            case 4: return b == 0 ? -1 : signed(a).divide(signed(b)).intValue();
            case 5: return b == 0 ? -1 : unsigned(a).divide(unsigned(b)).intValue();
            case 6: return b == 0 ? a : signed(a).remainder(signed(b)).intValue();
            default: return b == 0 ? a : unsigned(a).remainder(unsigned(b)).intValue();
        }
    }

    private static void operations() {
        for (int a : WORDS) {
            for (int b : WORDS) {
                VirtioMachine m = new VirtioMachine();
                Asm.set(m, 1, a, 0);
                Asm.set(m, 2, b, 0);
                for (int f = 0; f < 8; f++) {
                    m.poke(4 * f, Asm.op(0, f, 3 + f, 1, 2));
                    m.poke(32 + 4 * f, Asm.op(1, f, 11 + f, 1, 2));
                }
                Asm.put(m, 64, Asm.op(32, 0, 19, 1, 2), Asm.op(32, 5, 20, 1, 2), Asm.op(0, 0, 0, 1, 2),
                    Asm.op(0, 0, 1, 1, 2));
                CHECK.due("operations", m.run(20), 20);
                for (int f = 0; f < 8; f++) {
                    CHECK.due("operation " + f + " of " + a + ", " + b, m.register(3 + f), plain(f, a, b));
                    CHECK.due("mul " + f + " of " + a + ", " + b, m.register(11 + f), multiplied(f, a, b));
                }
                CHECK.due("sub", m.register(19), other(0, a, b));
                CHECK.due("sra", m.register(20), other(5, a, b));
                CHECK.due("x0", m.register(0), 0);
                CHECK.due("add to itself", m.register(1), a + b);
            }
        }
    }

    private static void immediates() {
        for (int a : WORDS) {
            for (int b : new int[] {0, 1, -1, 5, 31, 2047, -2048}) {
                VirtioMachine m = new VirtioMachine();
                Asm.set(m, 1, a, 0);
                for (int f = 0; f < 8; f++) {
                    m.poke(4 * f, Asm.opImm(f, 3 + f, 1, f == 1 || f == 5 ? b & 31 : b & 4095));
                }
                m.poke(32, Asm.opImm(5, 11, 1, 1024 | b & 31));
                CHECK.due("immediates", m.run(9), 9);
                for (int f = 0; f < 8; f++) {
                    CHECK.due("immediate " + f + " of " + a + ", " + b, m.register(3 + f), plain(f, a, b));
                }
                CHECK.due("srai", m.register(11), other(5, a, b));
            }
        }
    }

    private static void upperImmediates() {
        VirtioMachine m = new VirtioMachine();
        Asm.put(m, 8, Asm.lui(1, 0xFFFFF), Asm.auipc(2, 0xFFFFF), Asm.auipc(3, 1), Asm.lui(0, 5));
        m.jump(8);
        CHECK.due("run", m.run(4), 4);
        CHECK.due("lui", m.register(1), -4096);
        CHECK.due("auipc", m.register(2), 12 - 4096);
        CHECK.due("auipc", m.register(3), 16 + 4096);
        CHECK.due("lui x0", m.register(0), 0);
    }

    private static boolean taken(int funct3, int a, int b) {
        boolean positive = funct3 < 2 ? a == b : funct3 < 6 ? a < b : unsigned(a).compareTo(unsigned(b)) < 0;
        return positive != ((funct3 & 1) == 1);
    }

    private static void branches() {
        int[] words = {0, 1, -1, 5, Integer.MAX_VALUE, Integer.MIN_VALUE};
        for (int a : words) {
            for (int b : words) {
                VirtioMachine m = new VirtioMachine();
                Asm.set(m, 1, a, 0);
                Asm.set(m, 2, b, 0);
                for (int f : new int[] {0, 1, 4, 5, 6, 7}) {
                    for (int offset : new int[] {8, -8, 2048, -1024, 0, 1026}) {
                        boolean jumps = taken(f, a, b);
                        boolean traps = jumps && offset == 1026;
                        m.poke(1024, Asm.branch(f, 1, 2, offset));
                        m.jump(1024);
                        String what = "branch " + f + " of " + a + ", " + b + " by " + offset;
                        CHECK.due(what, m.run(1), traps ? 0 : 1);
                        CHECK.due(what, m.register(32), traps ? 0 : jumps ? 1024 + offset : 1028);
                        if (traps) {
                            CHECK.due(what, m.csr(834), 0);
                            CHECK.due(what, m.csr(833), 1024);
                        }
                    }
                }
            }
        }
        VirtioMachine m = new VirtioMachine();
        for (int offset : new int[] {4094 - 2, -4096}) {
            m.poke(0, Asm.branch(0, 0, 0, offset));
            m.jump(0);
            m.run(1);
            CHECK.due("far branch", m.register(32), offset);
        }
    }

    private static void jumps() {
        VirtioMachine m = new VirtioMachine();
        for (int offset : new int[] {4, -4, 2048, -2048, 0xFFFFC, -0x100000, 0x55554, 0xAAAA8}) {
            m.poke(1024, Asm.jal(1, offset));
            m.jump(1024);
            CHECK.due("jal", m.run(1), 1);
            CHECK.due("jal by " + offset, m.register(32), 1024 + offset);
            CHECK.due("jal's link", m.register(1), 1028);
        }
        m.poke(16, Asm.jal(2, 6));
        m.jump(16);
        CHECK.due("misaligned jal", m.run(1), 0);
        CHECK.due("no link", m.register(2), 0);
        CHECK.due("cause", m.csr(834), 0);
        CHECK.due("mepc", m.csr(833), 16);
        Asm.set(m, 3, 101, 1024);
        m.poke(1024, Asm.jalr(3, 3, -1));
        CHECK.due("jalr", m.run(1), 1);
        CHECK.due("jalr", m.register(32), 100);
        CHECK.due("link into its own base", m.register(3), 1028);
        Asm.set(m, 3, 100, 1024);
        m.poke(1024, Asm.jalr(4, 3, 1));
        m.run(1);
        CHECK.due("jalr clears bit 0", m.register(32), 100);
        m.poke(1024, Asm.jalr(5, 3, 2));
        m.jump(1024);
        CHECK.due("misaligned jalr", m.run(1), 0);
        CHECK.due("cause", m.csr(834), 0);
        CHECK.due("no link", m.register(5), 0);
    }

    private static void loads() {
        VirtioMachine m = new VirtioMachine();
        m.poke(512, 0x80F17F02);
        m.poke(516, 0x7FFF8000);
        Asm.set(m, 1, 514, 0);
        int[][] cases = {{0, -2, 2}, {0, -1, 127}, {0, 0, -15}, {0, 1, -128}, {4, 0, 0xF1}, {4, 1, 0x80}, {4, -2, 2},
            {1, -2, 0x7F02}, {1, 0, (short) 0x80F1}, {5, 0, 0x80F1}, {1, 2, -32768}, {5, 2, 32768}, {5, 4, 0x7FFF},
            {2, -2, 0x80F17F02}, {2, 2, 0x7FFF8000}};
        for (int[] c : cases) {
            m.poke(0, Asm.load(c[0], 2, 1, c[1] & 4095));
            m.jump(0);
            CHECK.due("load", m.run(1), 1);
            CHECK.due("load " + c[0] + " at " + (514 + c[1]), m.register(2), c[2]);
        }
        int[][] traps = {{1, 511, 4}, {2, 514, 4}, {5, 513, 4}, {2, 4097, 4}, {2, 4096, 5}, {0, 4096, 5}, {4, 4100, 5},
            {1, 4100, 5}, {5, 8192, 5}, {0, 12288, 5}, {2, 16384, 5}, {2, -4, 5}, {0, -1, 5}, {2, 8452, 5},
            {0, 8193, 5}};
        for (int[] c : traps) {
            trapsAt(c, Asm.load(c[0], 2, 3, 0));
        }
        VirtioMachine n = new VirtioMachine();
        Asm.set(n, 3, 8192, 0);
        Asm.put(n, 0, Asm.load(2, 2, 3, 0), Asm.load(2, 0, 3, 4), Asm.load(2, 4, 3, 256));
        CHECK.due("loads of registers", n.run(3), 3);
        CHECK.due("magic", n.register(2), 1953655158);
        CHECK.due("x0", n.register(0), 0);
        CHECK.due("sectors", n.register(4), 8);
    }

    private static void trapsAt(int[] c, int instruction) {
        VirtioMachine m = new VirtioMachine();
        Asm.set(m, 2, 12345, 0);
        Asm.set(m, 3, c[1], 512);
        m.poke(512, instruction);
        String what = "access " + c[0] + " at " + c[1];
        CHECK.due(what, m.run(1), 0);
        CHECK.due(what + " cause", m.csr(834), c[2]);
        CHECK.due(what + " mepc", m.csr(833), 512);
        CHECK.due(what + " x2", m.register(2), 12345);
    }

    private static void stores() {
        VirtioMachine m = new VirtioMachine();
        Asm.set(m, 1, 512, 0);
        Asm.set(m, 2, 0x89ABCDEF, 0);
        Asm.put(m, 0, Asm.store(2, 2, 1, 0), Asm.store(0, 2, 1, 5), Asm.store(1, 2, 1, 10), Asm.store(0, 2, 1, -1),
            Asm.store(1, 2, 1, -8), Asm.store(2, 2, 1, 2044), Asm.store(0, 2, 1, 15));
        CHECK.due("stores", m.run(7), 7);
        CHECK.due("sw", m.peek(512), 0x89ABCDEF);
        CHECK.due("sb", m.peek(516), 0x0000EF00);
        CHECK.due("sh", m.peek(520), 0xCDEF0000);
        CHECK.due("sb", m.peek(524), 0xEF000000);
        CHECK.due("sb", m.peek(508), 0xEF000000);
        CHECK.due("sh", m.peek(504), 0x0000CDEF);
        CHECK.due("sw", m.peek(2556), 0x89ABCDEF);
        int[][] traps = {{1, 511, 6}, {2, 514, 6}, {2, 4097, 6}, {2, 4096, 7}, {0, 4096, 7}, {0, 4100, 7}, {1, 4100, 7},
            {1, 8192, 7}, {0, 12288, 7}, {2, 16384, 7}, {2, -4, 7}, {0, -1, 7}, {2, 12548, 7}};
        for (int[] c : traps) {
            trapsAt(c, Asm.store(c[0], 2, 3, 0));
        }
        VirtioMachine n = new VirtioMachine();
        Asm.set(n, 3, 4096, 0);
        Asm.set(n, 4, 13, 0);
        Asm.put(n, 0, Asm.store(2, 4, 3, 24), Asm.store(2, 4, 3, 16));
        CHECK.due("stores to registers", n.run(2), 2);
        CHECK.due("threshold", n.in(4120), 5);
        n.poke(0, Asm.addi(1, 0, 9));
        n.poke(4, Asm.store(2, 1, 0, 8));
        n.poke(8, 0);
        Asm.set(n, 1, Asm.addi(7, 0, 70), 4);
        CHECK.due("a stored instruction is done", n.run(2), 2);
        CHECK.due("x7", n.register(7), 70);
    }

    private static boolean isLegal(int opcode, int funct3, int funct7) {
        switch (opcode) {
            case 0x37: case 0x17: case 0x6F: return true;
            case 0x67: case 0x0F: return funct3 == 0;
            case 0x63: return funct3 != 2 && funct3 != 3;
            case 0x03: return funct3 < 3 || funct3 == 4 || funct3 == 5;
            case 0x23: return funct3 < 3;
            case 0x13: return funct3 == 1 ? funct7 == 0 : funct3 != 5 || funct7 == 0 || funct7 == 32;
            case 0x33: return funct7 < 2 || funct7 == 32 && (funct3 == 0 || funct3 == 5);
            default: return false;
        }
    }

    private static void legality() {
        for (int opcode = 0; opcode < 128; opcode++) {
            VirtioMachine m = new VirtioMachine();
            for (int funct3 = 0; funct3 < 8 && opcode != 0x73; funct3++) {
                for (int funct7 : new int[] {0, 1, 2, 16, 32, 33, 64, 127}) {
                    m.poke(2048, Asm.r(funct7, 0, 0, funct3, 1, opcode));
                    m.jump(2048);
                    int done = m.run(1);
                    boolean illegal = done == 0 && m.csr(834) == 2;
                    String what = "opcode " + opcode + " " + funct3 + " " + funct7;
                    CHECK.due(what, !illegal, isLegal(opcode, funct3, funct7));
                    if (illegal) {
                        CHECK.due("mepc", m.csr(833), 2048);
                        CHECK.due("pc", m.register(32), 0);
                    }
                }
            }
        }
    }

    private static void systemWords() {
        int[] words = {Asm.ECALL, 11, Asm.EBREAK, 3, Asm.ECALL | 128, 2, Asm.EBREAK | 1 << 15, 2, Asm.WFI | 128, 2,
            Asm.MRET | 1 << 20, 2, Asm.MRET | 128, 2, 0x00200073, 2, 0x10200073, 2, 0x12000073, 2, 0x7B200073, 2,
            Asm.csr(4, 1, 768, 1), 2, Asm.csr(4, 0, 0, 0), 2, Asm.csr(1, 1, 769, 1), 2, Asm.csr(2, 1, 0xC00, 0), 2,
            Asm.csr(6, 1, 835, 0), 2, Asm.csr(3, 0, 4095, 0), 2, Asm.csr(2, 0, 0, 0), 2, 0, 2, -1, 2, 1, 2};
        for (int k = 0; k < words.length; k += 2) {
            VirtioMachine m = new VirtioMachine();
            m.poke(64, words[k]);
            m.jump(64);
            String what = "word " + Integer.toHexString(words[k]);
            CHECK.due(what, m.run(1), 0);
            CHECK.due(what, m.csr(834), words[k + 1]);
            CHECK.due(what, m.csr(833), 64);
            CHECK.due(what, m.register(32), 0);
            CHECK.due(what, m.waits(), false);
        }
        VirtioMachine m = new VirtioMachine();
        Asm.put(m, 0, 0x0FF0000F, 0x8330000F, 0x000F8F8F);
        CHECK.due("fences", m.run(3), 3);
        CHECK.due("fences", m.register(32), 12);
    }
}
