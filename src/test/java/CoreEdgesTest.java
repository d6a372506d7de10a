/** "Terms", the core: each sentence that names an edge has a test of its own. */
public final class CoreEdgesTest {
    private static final Check CHECK = new Check();
    private static final int NO_TRAP = Asm.NO_TRAP;
    private static final int INTERRUPT = -2147483637;
    private static final int MSTATUS = 768;
    private static final int MIE = 772;
    private static final int MTVEC = 773;
    private static final int MSCRATCH = 832;
    private static final int MEPC = 833;
    private static final int MCAUSE = 834;
    private static final int MIP = 836;
    private static final int[] CSRS = {MSTATUS, MIE, MTVEC, MSCRATCH, MEPC, MCAUSE, MIP};
    private static final int ENABLED = 4116;
    private static final int CODE = 512;

    public static void main(String[] args) {
        zeroRegister();
        pcAtFirst();
        bitsOfMstatus();
        bitsOfMie();
        lowestTwoBits();
        mipIsTheLine();
        mipWrites();
        wholeWords();
        bitsThatAreNotNamed();
        divisionByZero();
        divisionOverflow();
        highProducts();
        wrapAround();
        shiftAmounts();
        comparisonsAtTheSign();
        branchesAtTheSign();
        farBranches();
        farJumps();
        farAccesses();
        upperImmediates();
        loadsAtTheSign();
        fence();
        nothingToSet();
        registerThatHoldsZero();
        writeOfZero();
        illegalWords();
        illegalCsr();
        waitingDoesNothing();
        waitsNoMore();
        interruptBehindWaiting();
        waitBeginsThoughABitIsInBoth();
        interruptNeedsAllThree();
        interruptComesAheadOfTheInstruction();
        trapLeavesAllElse();
        trapState();
        machineReturn();
        misalignedJumps();
        misalignedBranches();
        branchNotTaken();
        jumpClearsTheLowestBit();
        fetchOutsideRam();
        trapVectorOutsideRam();
        jumpOutOfRam();
        otherCauses();
        trapsCountForNothing();
        CHECK.end();
    }

    private static void zeroRegister() {
        CHECK.sentence("x0 is always 0");
        int[] words = {Asm.lui(0, 5), Asm.auipc(0, 5), Asm.jal(0, 8), Asm.jalr(0, 0, 64), Asm.addi(0, 0, 5),
            Asm.op(0, 0, 0, 1, 1), Asm.op(1, 0, 0, 1, 1), Asm.load(2, 0, 1, 0), Asm.csr(1, 0, MSCRATCH, 1)};
        VirtioMachine m = new VirtioMachine();
        m.poke(100, 77);
        Asm.set(m, 1, 100, 0);
        Asm.setCsr(m, MSCRATCH, 99);
        for (int word : words) {
            CHECK.due("done " + Integer.toHexString(word), Asm.does(m, word), NO_TRAP);
            CHECK.due("x0 then", m.register(0), 0);
            Asm.does(m, Asm.addi(2, 0, 3));
            CHECK.due("x0 as an operand", m.register(2), 3);
        }
    }

    private static void pcAtFirst() {
        CHECK.sentence("PC (at first 0)");
        VirtioMachine m = new VirtioMachine();
        CHECK.due("PC", m.register(32), 0);
        Asm.put(m, 0, Asm.addi(1, 0, 1), Asm.addi(1, 0, 2));
        m.run(1);
        CHECK.due("the first instruction", m.register(1), 1);
    }

    private static void onlyBits(int number, int named) {
        VirtioMachine m = new VirtioMachine();
        for (int bit = 0; bit < 32; bit++) {
            Asm.setCsr(m, number, 1 << bit);
            CHECK.due("CSR " + number + " written with bit " + bit, m.csr(number), 1 << bit & named);
        }
        Asm.setCsr(m, number, -1);
        CHECK.due("CSR " + number + " written with all bits", m.csr(number), named);
    }

    private static void bitsOfMstatus() {
        CHECK.sentence("768 MSTATUS (bits 3 MIE and 7 MPIE)");
        onlyBits(MSTATUS, 0x88);
    }

    private static void bitsOfMie() {
        CHECK.sentence("772 MIE (bit 11)");
        onlyBits(MIE, 0x800);
    }

    private static void lowestTwoBits() {
        CHECK.sentence("773 MTVEC and 833 MEPC (their lowest two bits are 0)");
        onlyBits(MTVEC, -4);
        onlyBits(MEPC, -4);
    }

    private static void wholeWords() {
        CHECK.sentence("832 MSCRATCH, 834 MCAUSE");
        onlyBits(MSCRATCH, -1);
        onlyBits(MCAUSE, -1);
    }

    private static void bitsThatAreNotNamed() {
        CHECK.sentence("bits that are not named are always 0");
        VirtioMachine m = new VirtioMachine();
        Asm.set(m, 6, -1, 0);
        int[] named = {0x88, 0x800, -4, -1, -4, -1, 0};
        for (int k = 0; k < CSRS.length; k++) {
            Asm.does(m, Asm.csr(2, 0, CSRS[k], 6));
            CHECK.due("all set in CSR " + CSRS[k], m.csr(CSRS[k]), named[k]);
            Asm.does(m, Asm.csr(3, 4, CSRS[k], 6));
            CHECK.due("as it is read by the core", m.register(4), named[k]);
            CHECK.due("all cleared", m.csr(CSRS[k]), 0);
            Asm.does(m, Asm.csr(5, 0, CSRS[k], 31));
            CHECK.due("an immediate of all ones", m.csr(CSRS[k]), named[k] & 31);
        }
    }

    /** The disk's source is pending, with priority 1; it makes the line 1 as soon as it is enabled. */
    private static VirtioMachine withPendingDisk() {
        VirtioMachine m = new VirtioMachine();
        Driver.disk(m).offer(99);
        m.serve();
        m.out(4100, 1);
        return m;
    }

    private static void mipIsTheLine() {
        CHECK.sentence("836 MIP (bit 11: the controller's line");
        VirtioMachine m = withPendingDisk();
        for (int enabled : new int[] {0, 2, 4, 6}) {
            m.out(ENABLED, enabled);
            int line = (enabled & 2) != 0 ? 0x800 : 0;
            CHECK.due("MIP", m.csr(MIP), line);
            Asm.does(m, Asm.csr(2, 5, MIP, 0));
            CHECK.due("MIP as it is read by the core", m.register(5), line);
        }
    }

    private static void mipWrites() {
        CHECK.sentence("writing it does nothing");
        VirtioMachine m = withPendingDisk();
        Asm.set(m, 6, -1, CODE);
        for (int enabled : new int[] {0, 2}) {
            m.out(ENABLED, enabled);
            for (int kind : new int[] {1, 2, 3, 5, 6, 7}) {
                CHECK.due("it is no trap", Asm.does(m, Asm.csr(kind, 0, MIP, kind == 1 ? 0 : 6)), NO_TRAP);
                CHECK.due("MIP behind kind " + kind, m.csr(MIP), enabled == 2 ? 0x800 : 0);
            }
            Asm.does(m, Asm.csr(1, 0, MIP, 6));
            CHECK.due("MIP behind all ones", m.csr(MIP), enabled == 2 ? 0x800 : 0);
        }
    }

    private static int computed(int funct7, int funct3, int a, int b) {
        VirtioMachine m = new VirtioMachine();
        Asm.set(m, 1, a, 0);
        Asm.set(m, 2, b, 0);
        CHECK.due("it is no trap", Asm.does(m, Asm.op(funct7, funct3, 4, 1, 2)), NO_TRAP);
        return m.register(4);
    }

    private static void divisionByZero() {
        CHECK.sentence("Its instructions are those of RV32IM as the RISC-V manual has them");
        for (int a : new int[] {0, 1, -1, 7, Integer.MIN_VALUE, Integer.MAX_VALUE}) {
            CHECK.due("DIV by 0", computed(1, 4, a, 0), -1);
            CHECK.due("DIVU by 0", computed(1, 5, a, 0), -1);
            CHECK.due("REM by 0", computed(1, 6, a, 0), a);
            CHECK.due("REMU by 0", computed(1, 7, a, 0), a);
        }
    }

    private static void divisionOverflow() {
        CHECK.sentence("Its instructions are those of RV32IM as the RISC-V manual has them");
        int least = Integer.MIN_VALUE;
        CHECK.due("DIV", computed(1, 4, least, -1), least);
        CHECK.due("REM", computed(1, 6, least, -1), 0);
        CHECK.due("DIVU", computed(1, 5, least, -1), 0);
        CHECK.due("REMU", computed(1, 7, least, -1), least);
        CHECK.due("DIV goes towards 0", computed(1, 4, -7, 2), -3);
        CHECK.due("REM has the dividend's sign", computed(1, 6, -7, 2), -1);
        CHECK.due("DIVU", computed(1, 5, -7, 2), 0x7FFFFFFC);
        CHECK.due("REMU", computed(1, 7, -7, 2), 1);
    }

    private static void highProducts() {
        CHECK.sentence("MUL to REMU");
        int least = Integer.MIN_VALUE;
        CHECK.due("MUL", computed(1, 0, least, -1), least);
        CHECK.due("MULH", computed(1, 1, least, least), 0x40000000);
        CHECK.due("MULH", computed(1, 1, -1, -1), 0);
        CHECK.due("MULHSU", computed(1, 2, -1, -1), -1);
        CHECK.due("MULHSU", computed(1, 2, least, -1), least);
        CHECK.due("MULHU", computed(1, 3, -1, -1), -2);
        CHECK.due("MULHU", computed(1, 3, least, least), 0x40000000);
    }

    private static void wrapAround() {
        CHECK.sentence("the operations on registers and with immediates");
        int least = Integer.MIN_VALUE;
        int most = Integer.MAX_VALUE;
        CHECK.due("ADD", computed(0, 0, most, 1), least);
        CHECK.due("SUB", computed(32, 0, least, 1), most);
        CHECK.due("SUB", computed(32, 0, 0, least), least);
        CHECK.due("MUL", computed(1, 0, 65536, 65536), 0);
        VirtioMachine m = new VirtioMachine();
        Asm.set(m, 1, most, 0);
        Asm.does(m, Asm.addi(4, 1, 2047));
        CHECK.due("ADDI", m.register(4), least + 2046);
        Asm.set(m, 1, least, 0);
        Asm.does(m, Asm.addi(4, 1, -2048));
        CHECK.due("ADDI", m.register(4), most - 2047);
    }

    private static void shiftAmounts() {
        CHECK.sentence("the operations on registers and with immediates");
        for (int amount : new int[] {0, 31, 32, 33, 64, -1, Integer.MIN_VALUE}) {
            CHECK.due("SLL by " + amount, computed(0, 1, -3, amount), -3 << (amount & 31));
            CHECK.due("SRL by " + amount, computed(0, 5, -3, amount), -3 >>> (amount & 31));
            CHECK.due("SRA by " + amount, computed(32, 5, -3, amount), -3 >> (amount & 31));
        }
        VirtioMachine m = new VirtioMachine();
        Asm.set(m, 1, -3, 0);
        Asm.does(m, Asm.opImm(1, 4, 1, 31));
        CHECK.due("SLLI by 31", m.register(4), Integer.MIN_VALUE);
        Asm.does(m, Asm.opImm(5, 4, 1, 31));
        CHECK.due("SRLI by 31", m.register(4), 1);
        Asm.does(m, Asm.opImm(5, 4, 1, 1024 + 31));
        CHECK.due("SRAI by 31", m.register(4), -1);
        Asm.does(m, Asm.opImm(5, 4, 1, 1024));
        CHECK.due("SRAI by 0", m.register(4), -3);
        CHECK.due("SLLI by 32", Asm.does(m, Asm.opImm(1, 1, 1, 32)), 2);
        CHECK.due("SRLI by 32", Asm.does(m, Asm.opImm(5, 1, 1, 32)), 2);
        CHECK.due("SRAI by 32", Asm.does(m, Asm.opImm(5, 1, 1, 1024 + 32)), 2);
    }

    private static void comparisonsAtTheSign() {
        CHECK.sentence("the operations on registers and with immediates");
        int least = Integer.MIN_VALUE;
        int most = Integer.MAX_VALUE;
        CHECK.due("SLT", computed(0, 2, least, most), 1);
        CHECK.due("SLTU", computed(0, 3, least, most), 0);
        CHECK.due("SLT", computed(0, 2, most, least), 0);
        CHECK.due("SLTU", computed(0, 3, most, least), 1);
        CHECK.due("SLT of equals", computed(0, 2, -1, -1), 0);
        CHECK.due("SLTU of equals", computed(0, 3, -1, -1), 0);
        VirtioMachine m = new VirtioMachine();
        Asm.set(m, 1, 5, 0);
        Asm.does(m, Asm.opImm(3, 4, 1, -1));
        CHECK.due("SLTIU: the immediate is extended by its sign first", m.register(4), 1);
        Asm.does(m, Asm.opImm(2, 4, 1, -1));
        CHECK.due("SLTI", m.register(4), 0);
    }

    private static void branchesAtTheSign() {
        CHECK.sentence("the six branches");
        int least = Integer.MIN_VALUE;
        int most = Integer.MAX_VALUE;
        int[][] pairs = {{least, most}, {most, least}, {-1, 0}, {0, -1}, {least, least}, {-1, -1}, {0, 0}};
        for (int[] p : pairs) {
            VirtioMachine m = new VirtioMachine();
            Asm.set(m, 1, p[0], 0);
            Asm.set(m, 2, p[1], 0);
            boolean below = p[0] < p[1];
            boolean belowUnsigned = (p[0] ^ least) < (p[1] ^ least);
            boolean[] taken = {p[0] == p[1], p[0] != p[1], false, false, below, !below, belowUnsigned, !belowUnsigned};
            for (int kind : new int[] {0, 1, 4, 5, 6, 7}) {
                CHECK.due("branch " + kind, Asm.does(m, Asm.branch(kind, 1, 2, -32)), NO_TRAP);
                CHECK.due("of " + p[0] + " and " + p[1], m.register(32), taken[kind] ? Asm.AT - 32 : Asm.AT + 4);
            }
        }
    }

    private static void farBranches() {
        CHECK.sentence("LUI, AUIPC, JAL, JALR, the six branches");
        VirtioMachine m = new VirtioMachine();
        for (int offset : new int[] {-4096, 4092, -2048, 2048, 2044, -32, 32, 1024, 512, 64, 16, 4, -4, 0}) {
            for (int register : new int[] {1, 2, 31}) {
                CHECK.due("it is no trap", Asm.does(m, Asm.branch(0, register, 32 - register, offset)), NO_TRAP);
                CHECK.due("by " + offset, m.register(32), Asm.AT + offset);
            }
        }
    }

    private static void farJumps() {
        CHECK.sentence("LUI, AUIPC, JAL, JALR, the six branches");
        VirtioMachine m = new VirtioMachine();
        for (int bit = 2; bit <= 20; bit++) {
            int offset = bit == 20 ? -(1 << 20) : 1 << bit;
            CHECK.due("it is no trap", Asm.does(m, Asm.jal(4, offset)), NO_TRAP);
            CHECK.due("JAL by " + offset, m.register(32), Asm.AT + offset);
            CHECK.due("its link", m.register(4), Asm.AT + 4);
        }
        Asm.does(m, Asm.jal(4, (1 << 20) - 4));
        CHECK.due("JAL as far as can be", m.register(32), Asm.AT + (1 << 20) - 4);
        Asm.doesWith(m, 0, Asm.jalr(4, 3, -2048));
        CHECK.due("JALR as far back as can be", m.register(32), -2048);
        Asm.doesWith(m, 1, Asm.jalr(4, 3, 2047));
        CHECK.due("JALR as far as can be", m.register(32), 2048);
        Asm.doesWith(m, Integer.MAX_VALUE, Asm.jalr(4, 3, 1));
        CHECK.due("JALR over the greatest word", m.register(32), Integer.MIN_VALUE);
    }

    private static void farAccesses() {
        CHECK.sentence("LB LH LW LBU LHU, SB SH SW");
        VirtioMachine m = new VirtioMachine();
        for (int offset : new int[] {-2048, -1024, -32, -4, 0, 4, 28, 32, 64, 128, 256, 512, 1024, 2044}) {
            m.poke(2048 + offset, 7 + offset);
            CHECK.due("it is no trap", Asm.doesWith(m, 2048, Asm.load(2, 4, 3, offset & 4095)), NO_TRAP);
            CHECK.due("LW by " + offset, m.register(4), 7 + offset);
            CHECK.due("it is no trap", Asm.doesWith(m, 2048, Asm.store(2, 3, 3, offset & 4095)), NO_TRAP);
            CHECK.due("SW by " + offset, m.peek(2048 + offset), 2048);
        }
        CHECK.due("LB by -1", Asm.doesWith(m, 4096, Asm.load(0, 4, 3, -1)), NO_TRAP);
        CHECK.due("LB by 1", Asm.doesWith(m, -1, Asm.load(0, 4, 3, 1)), NO_TRAP);
        CHECK.due("SB by -1", Asm.doesWith(m, 0, Asm.store(0, 4, 3, -1)), 7);
    }

    private static void upperImmediates() {
        CHECK.sentence("LUI, AUIPC");
        VirtioMachine m = new VirtioMachine();
        for (int upper : new int[] {0, 1, 0x7FFFF, 0x80000, 0xFFFFF}) {
            Asm.does(m, Asm.lui(4, upper));
            CHECK.due("LUI " + upper, m.register(4), upper << 12);
            Asm.does(m, Asm.auipc(4, upper));
            CHECK.due("AUIPC " + upper, m.register(4), (upper << 12) + Asm.AT);
        }
        m.poke(0, Asm.auipc(5, 0));
        m.jump(0);
        m.run(1);
        CHECK.due("AUIPC at 0", m.register(5), 0);
    }

    private static void loadsAtTheSign() {
        CHECK.sentence("LB LH LW LBU LHU");
        int[][] cases = {{0, 0x7F, 127}, {0, 0x80, -128}, {0, 0x1FF, -1}, {4, 0x80, 128}, {4, 0x1FF, 255},
            {1, 0x7FFF, 32767}, {1, 0x8000, -32768}, {1, 0x1FFFF, -1}, {5, 0x8000, 32768}, {5, 0x1FFFF, 65535},
            {2, Integer.MIN_VALUE, Integer.MIN_VALUE}, {2, -1, -1}};
        for (int[] c : cases) {
            VirtioMachine m = new VirtioMachine();
            m.poke(CODE, c[1]);
            CHECK.due("load " + c[0], Asm.doesWith(m, CODE, Asm.load(c[0], 4, 3, 0)), NO_TRAP);
            CHECK.due("of " + c[1], m.register(4), c[2]);
        }
    }

    private static void fence() {
        CHECK.sentence("FENCE (nothing, funct3 0)");
        VirtioMachine m = new VirtioMachine();
        for (int kind = 0; kind < 8; kind++) {
            int cause = Asm.does(m, Asm.i(0x0FF, 0, kind, 0, 0x0F));
            CHECK.due("funct3 " + kind, cause, kind == 0 ? NO_TRAP : 2);
        }
        CHECK.due("any other fields", Asm.does(m, Asm.i(-1, 31, 0, 31, 0x0F)), NO_TRAP);
        CHECK.due("PC", m.register(32), Asm.AT + 4);
        CHECK.due("x31", m.register(31), 0);
    }

    private static void nothingToSet() {
        CHECK.sentence("where CSRRS and CSRRC have x0 or 0 for what is to be set, nothing is written");
        VirtioMachine m = withPendingDisk();
        m.out(ENABLED, 2);
        Asm.setCsr(m, MSTATUS, 0x80);
        Asm.setCsr(m, MTVEC, 256);
        Asm.setCsr(m, MSCRATCH, 0x12345678);
        Asm.setCsr(m, MEPC, 1024);
        Asm.setCsr(m, MCAUSE, -5);
        int[] values = {0x80, 0, 256, 0x12345678, 1024, -5, 0x800};
        for (int kind : new int[] {2, 3, 6, 7}) {
            for (int k = 0; k < CSRS.length; k++) {
                CHECK.due("it is no trap", Asm.does(m, Asm.csr(kind, 4, CSRS[k], 0)), NO_TRAP);
                CHECK.due("CSR " + CSRS[k], m.csr(CSRS[k]), values[k]);
                CHECK.due("it is read", m.register(4), values[k]);
            }
        }
    }

    private static void registerThatHoldsZero() {
        CHECK.sentence("CSRRW, CSRRS, CSRRC with registers and immediates");
        VirtioMachine m = new VirtioMachine();
        Asm.setCsr(m, MSCRATCH, 21);
        Asm.does(m, Asm.csr(2, 4, MSCRATCH, 9));
        Asm.does(m, Asm.csr(3, 4, MSCRATCH, 9));
        CHECK.due("a register with 0 sets and clears nothing", m.csr(MSCRATCH), 21);
        Asm.does(m, Asm.csr(6, 4, MSCRATCH, 31));
        CHECK.due("the greatest immediate", m.csr(MSCRATCH), 31);
        Asm.does(m, Asm.csr(7, 4, MSCRATCH, 31));
        CHECK.due("the greatest immediate", m.csr(MSCRATCH), 0);
        Asm.does(m, Asm.csr(5, 4, MSCRATCH, 31));
        CHECK.due("the immediate has no sign", m.csr(MSCRATCH), 31);
    }

    private static void writeOfZero() {
        CHECK.sentence("CSRRW, CSRRS, CSRRC with registers and immediates");
        for (int kind : new int[] {1, 5}) {
            VirtioMachine m = new VirtioMachine();
            Asm.setCsr(m, MSCRATCH, 21);
            Asm.does(m, Asm.csr(kind, 4, MSCRATCH, 0));
            CHECK.due("CSRRW writes 0 too", m.csr(MSCRATCH), 0);
            CHECK.due("what was there", m.register(4), 21);
        }
    }

    private static void illegalWords() {
        CHECK.sentence("All else (also a CSR that is not there) is ILLEGAL");
        int[] words = {0, -1, 0x00000001, 0x00000002, 0x0000006B, 0x0000002F, 0x00000007, 0x00000053, 0x00000027,
            Asm.op(2, 0, 1, 1, 1), Asm.op(32, 1, 1, 1, 1), Asm.op(32, 7, 1, 1, 1), Asm.op(33, 0, 1, 1, 1),
            Asm.op(64, 0, 1, 1, 1), Asm.opImm(1, 1, 1, 1024), Asm.load(3, 1, 0, 0), Asm.load(6, 1, 0, 0),
            Asm.load(7, 1, 0, 0), Asm.store(3, 1, 0, 0), Asm.store(7, 1, 0, 0), Asm.branch(2, 0, 0, 8),
            Asm.branch(3, 0, 0, 8), Asm.jalr(1, 0, 0) | 1 << 12, Asm.ECALL | 1 << 7, Asm.EBREAK | 1 << 15,
            Asm.MRET | 1 << 7, Asm.WFI | 1 << 15, 0x00200073, 0x10200073, Asm.csr(4, 1, MSCRATCH, 1)};
        for (int word : words) {
            VirtioMachine m = new VirtioMachine();
            Asm.setCsr(m, MTVEC, 256);
            CHECK.due("word " + Integer.toHexString(word), Asm.does(m, word), 2);
            CHECK.due("MEPC", m.csr(MEPC), Asm.AT);
            CHECK.due("PC", m.register(32), 256);
            CHECK.due("x1", m.register(1), 0);
            CHECK.due("waits", m.waits(), false);
        }
    }

    private static void illegalCsr() {
        CHECK.sentence("also a CSR that is not there");
        for (int number : new int[] {0, 767, 769, 771, 774, 831, 835, 837, 0xC00, 0xF14, 4095}) {
            VirtioMachine m = new VirtioMachine();
            for (int kind : new int[] {1, 2, 3, 5, 6, 7}) {
                CHECK.due("CSR " + number + " written", Asm.does(m, Asm.csr(kind, 4, number, 5)), 2);
                CHECK.due("CSR " + number + " with x0 or 0", Asm.does(m, Asm.csr(kind, 4, number, 0)), 2);
            }
            CHECK.due("x4", m.register(4), 0);
        }
        VirtioMachine m = new VirtioMachine();
        for (int number : CSRS) {
            CHECK.due("CSR " + number, Asm.does(m, Asm.csr(2, 4, number, 0)), NO_TRAP);
        }
    }

    /** Behind a WFI at CODE, with the disk's source pending but not enabled, and MTVEC 256. */
    private static VirtioMachine waiting(int mstatus, int mie) {
        VirtioMachine m = withPendingDisk();
        Asm.setCsr(m, MTVEC, 256);
        Asm.setCsr(m, MIE, mie);
        Asm.setCsr(m, MSTATUS, mstatus);
        Asm.put(m, CODE, Asm.WFI, Asm.addi(5, 5, 1), Asm.addi(5, 5, 1));
        m.jump(CODE);
        CHECK.due("the WFI is done", m.run(1), 1);
        return m;
    }

    private static void waitingDoesNothing() {
        CHECK.sentence("if it WAITS (behind a WFI) and no bit is in both MIE and MIP, nothing");
        int[][] cases = {{0, 0, 0}, {8, 0, 0}, {0, 0x800, 0}, {8, 0x800, 0}, {0, 0, 2}, {8, 0, 2}};
        for (int[] c : cases) {
            VirtioMachine m = waiting(c[0], c[1]);
            m.out(ENABLED, c[2]);
            CHECK.due("run", m.run(100), 0);
            CHECK.due("waits", m.waits(), true);
            CHECK.due("PC", m.register(32), CODE + 4);
            CHECK.due("x5", m.register(5), 0);
            CHECK.due("MSTATUS", m.csr(MSTATUS), c[0]);
            CHECK.due("MCAUSE", m.csr(MCAUSE), 0);
        }
    }

    private static void waitsNoMore() {
        CHECK.sentence("else it waits no more");
        VirtioMachine m = waiting(0, 0x800);
        CHECK.due("run without the line", m.run(3), 0);
        m.out(ENABLED, 2);
        CHECK.due("waits till the next step", m.waits(), true);
        CHECK.due("run with the line", m.run(1), 1);
        CHECK.due("waits", m.waits(), false);
        CHECK.due("the instruction behind is done", m.register(5), 1);
        CHECK.due("no trap", m.csr(MCAUSE), 0);
        m.out(ENABLED, 0);
        CHECK.due("without the line again", m.run(1), 1);
        CHECK.due("x5", m.register(5), 2);
    }

    private static void interruptBehindWaiting() {
        CHECK.sentence("If the MSTATUS bit 3 is 1 and the bit 11 in both MIE and MIP, a TRAP");
        VirtioMachine m = waiting(8, 0x800);
        m.out(ENABLED, 2);
        CHECK.due("run", m.run(1), 0);
        CHECK.due("waits", m.waits(), false);
        CHECK.due("MCAUSE", m.csr(MCAUSE), INTERRUPT);
        CHECK.due("MEPC is behind the WFI", m.csr(MEPC), CODE + 4);
        CHECK.due("x5", m.register(5), 0);
        CHECK.due("PC", m.register(32), 256);
    }

    private static void waitBeginsThoughABitIsInBoth() {
        CHECK.sentence("A STEP of the core: if it WAITS");
        VirtioMachine m = waiting(0, 0x800);
        m.out(ENABLED, 2);
        m.jump(CODE);
        CHECK.due("the WFI", m.run(1), 1);
        CHECK.due("waits", m.waits(), true);
        CHECK.due("the step behind it", m.run(1), 1);
        CHECK.due("waits", m.waits(), false);
    }

    private static void interruptNeedsAllThree() {
        CHECK.sentence("If the MSTATUS bit 3 is 1 and the bit 11 in both MIE and MIP, a TRAP with cause -2147483637");
        for (int which = 0; which < 8; which++) {
            VirtioMachine m = withPendingDisk();
            m.out(ENABLED, (which & 1) != 0 ? 2 : 0);
            Asm.setCsr(m, MIE, (which & 2) != 0 ? 0x800 : 0x7FF);
            m.poke(Asm.AT + 4, Asm.addi(5, 0, 5));
            Asm.set(m, 6, (which & 4) != 0 ? 8 : 0x80, 0);
            CHECK.due("MSTATUS is written", Asm.does(m, Asm.csr(1, 0, MSTATUS, 6)), NO_TRAP);
            CHECK.due("the next step", m.run(1), which == 7 ? 0 : 1);
            CHECK.due("x5", m.register(5), which == 7 ? 0 : 5);
            CHECK.due("MCAUSE", m.csr(MCAUSE), which == 7 ? INTERRUPT : 0);
        }
    }

    private static void interruptComesAheadOfTheInstruction() {
        CHECK.sentence("Else the instruction at PC is done");
        int[] words = {Asm.addi(5, 0, 5), Asm.ECALL, 0, Asm.WFI, Asm.MRET, Asm.store(2, 6, 0, 64)};
        for (int word : words) {
            VirtioMachine m = waiting(8, 0x800);
            m.poke(CODE, word);
            m.jump(CODE);
            m.out(ENABLED, 2);
            CHECK.due("run", m.run(1), 0);
            CHECK.due("MCAUSE", m.csr(MCAUSE), INTERRUPT);
            CHECK.due("MEPC", m.csr(MEPC), CODE);
            CHECK.due("x5", m.register(5), 0);
            CHECK.due("waits", m.waits(), false);
        }
        VirtioMachine m = waiting(8, 0x800);
        m.jump(4096);
        m.out(ENABLED, 2);
        m.run(1);
        CHECK.due("ahead of an instruction that is not in RAM", m.csr(MCAUSE), INTERRUPT);
    }

    private static void trapLeavesAllElse() {
        CHECK.sentence("A TRAP leaves all else as it was");
        int[] words = {Asm.jal(4, 6), 0, Asm.EBREAK, Asm.load(2, 4, 3, 1), Asm.load(2, 4, 3, 0), Asm.store(2, 5, 3, 1),
            Asm.store(2, 5, 3, 0), Asm.ECALL, Asm.csr(1, 4, 769, 5)};
        for (int word : words) {
            VirtioMachine m = new VirtioMachine();
            Asm.setCsr(m, MIE, 0x800);
            Asm.setCsr(m, MTVEC, 256);
            Asm.setCsr(m, MSCRATCH, 77);
            for (int i = 1; i < 32; i++) {
                m.poke(CODE + 4 * i, Asm.addi(i, 0, i * 11));
            }
            m.poke(CODE + 4 * 3, Asm.lui(3, 1));
            m.jump(CODE + 4);
            m.run(31);
            Asm.does(m, word);
            for (int i = 1; i < 32; i++) {
                CHECK.due("x" + i, m.register(i), i == 3 ? 4096 : i * 11);
            }
            CHECK.due("MSCRATCH", m.csr(MSCRATCH), 77);
            CHECK.due("MIE", m.csr(MIE), 0x800);
            CHECK.due("MTVEC", m.csr(MTVEC), 256);
            CHECK.due("the instruction", m.peek(Asm.AT), word);
            CHECK.due("the word ahead of 4096", m.peek(4092), 0);
            CHECK.due("the word at 0", m.peek(0), 0);
        }
    }

    private static void trapState() {
        CHECK.sentence("with MEPC = PC, MCAUSE = the cause, MPIE = MIE, MIE = 0, PC = MTVEC");
        for (int before : new int[] {0, 8, 0x80, 0x88}) {
            VirtioMachine m = new VirtioMachine();
            Asm.setCsr(m, MTVEC, 1027);
            Asm.setCsr(m, MSTATUS, before);
            CHECK.due("ECALL", Asm.does(m, Asm.ECALL), 11);
            CHECK.due("MEPC", m.csr(MEPC), Asm.AT);
            CHECK.due("MSTATUS behind " + before, m.csr(MSTATUS), (before & 8) << 4);
            CHECK.due("PC", m.register(32), 1024);
        }
    }

    private static void machineReturn() {
        CHECK.sentence("MRET: MIE = MPIE, MPIE = 1, PC = MEPC");
        for (int before : new int[] {0, 8, 0x80, 0x88}) {
            VirtioMachine m = new VirtioMachine();
            Asm.setCsr(m, MEPC, 2047);
            Asm.setCsr(m, MSTATUS, before);
            CHECK.due("MRET", Asm.does(m, Asm.MRET), NO_TRAP);
            CHECK.due("MSTATUS behind " + before, m.csr(MSTATUS), 0x80 | (before & 0x80) >> 4);
            CHECK.due("PC", m.register(32), 2044);
            CHECK.due("MEPC stays", m.csr(MEPC), 2044);
        }
        VirtioMachine m = new VirtioMachine();
        Asm.setCsr(m, MEPC, -4);
        CHECK.due("out of RAM", Asm.does(m, Asm.MRET), NO_TRAP);
        CHECK.due("PC", m.register(32), -4);
    }

    private static void misalignedJumps() {
        CHECK.sentence("0 a jump or a branch that is taken goes to no multiple of 4 (then nothing else of it is done)");
        VirtioMachine m = new VirtioMachine();
        Asm.setCsr(m, MCAUSE, 99);
        Asm.setCsr(m, MTVEC, 256);
        for (int offset : new int[] {2, 6, -2, 0xFFFFE}) {
            CHECK.due("JAL by " + offset, Asm.does(m, Asm.jal(4, offset)), 0);
            CHECK.due("no link", m.register(4), 0);
            CHECK.due("MEPC", m.csr(MEPC), Asm.AT);
            CHECK.due("PC", m.register(32), 256);
        }
        for (int target : new int[] {2, 3, 102, 103, -1, -2}) {
            CHECK.due("JALR to " + target, Asm.doesWith(m, target, Asm.jalr(4, 3, 0)), 0);
            CHECK.due("no link", m.register(4), 0);
            CHECK.due("MEPC", m.csr(MEPC), Asm.AT);
        }
    }

    private static void misalignedBranches() {
        CHECK.sentence("0 a jump or a branch that is taken goes to no multiple of 4 (then nothing else of it is done)");
        VirtioMachine m = new VirtioMachine();
        Asm.set(m, 3, 5, 0);
        Asm.setCsr(m, MTVEC, 256);
        for (int kind : new int[] {0, 5, 7}) {
            CHECK.due("branch " + kind, Asm.does(m, Asm.branch(kind, 3, 3, 10)), 0);
            CHECK.due("MEPC", m.csr(MEPC), Asm.AT);
            CHECK.due("PC", m.register(32), 256);
        }
        for (int kind : new int[] {1, 4, 6}) {
            CHECK.due("branch " + kind, Asm.does(m, Asm.branch(kind, 0, 3, -6)), 0);
            CHECK.due("PC", m.register(32), 256);
        }
    }

    private static void branchNotTaken() {
        CHECK.sentence("a branch that is taken");
        VirtioMachine m = new VirtioMachine();
        Asm.set(m, 3, 5, 0);
        for (int kind : new int[] {1, 4, 6}) {
            CHECK.due("branch " + kind, Asm.does(m, Asm.branch(kind, 3, 3, 10)), NO_TRAP);
            CHECK.due("PC", m.register(32), Asm.AT + 4);
        }
        for (int kind : new int[] {0, 5, 7}) {
            CHECK.due("branch " + kind, Asm.does(m, Asm.branch(kind, 0, 3, 10)), NO_TRAP);
            CHECK.due("PC", m.register(32), Asm.AT + 4);
        }
    }

    private static void jumpClearsTheLowestBit() {
        CHECK.sentence("JALR");
        VirtioMachine m = new VirtioMachine();
        CHECK.due("JALR to 101", Asm.doesWith(m, 101, Asm.jalr(3, 3, 0)), NO_TRAP);
        CHECK.due("PC", m.register(32), 100);
        CHECK.due("the link over its own base", m.register(3), Asm.AT + 4);
        CHECK.due("JALR by 2048 back", Asm.doesWith(m, 2048, Asm.jalr(4, 3, -2048)), NO_TRAP);
        CHECK.due("PC", m.register(32), 0);
        CHECK.due("JALR round", Asm.doesWith(m, -4, Asm.jalr(4, 3, 8)), NO_TRAP);
        CHECK.due("PC", m.register(32), 4);
    }

    private static void fetchOutsideRam() {
        CHECK.sentence("1 the instruction is not in RAM");
        for (int pc : new int[] {4096, 4100, 8192, 12288, 65536, 0x7FFFFFFC, Integer.MIN_VALUE, -4}) {
            VirtioMachine m = new VirtioMachine();
            Asm.setCsr(m, MTVEC, 256);
            m.jump(pc);
            CHECK.due("run at " + pc, m.run(1), 0);
            CHECK.due("MCAUSE", m.csr(MCAUSE), 1);
            CHECK.due("MEPC", m.csr(MEPC), pc);
            CHECK.due("PC", m.register(32), 256);
        }
        for (int pc : new int[] {0, 4092}) {
            VirtioMachine m = new VirtioMachine();
            m.poke(pc, Asm.addi(5, 0, 5));
            m.jump(pc);
            CHECK.due("run at " + pc, m.run(1), 1);
            CHECK.due("x5", m.register(5), 5);
            CHECK.due("PC", m.register(32), pc + 4);
        }
    }

    private static void trapVectorOutsideRam() {
        CHECK.sentence("1 the instruction is not in RAM");
        VirtioMachine m = new VirtioMachine();
        Asm.setCsr(m, MTVEC, 8192);
        Asm.setCsr(m, MSTATUS, 8);
        Asm.does(m, Asm.ECALL);
        CHECK.due("MSTATUS", m.csr(MSTATUS), 0x80);
        CHECK.due("run", m.run(3), 0);
        CHECK.due("MCAUSE", m.csr(MCAUSE), 1);
        CHECK.due("MEPC", m.csr(MEPC), 8192);
        CHECK.due("MSTATUS", m.csr(MSTATUS), 0);
        CHECK.due("PC", m.register(32), 8192);
    }

    private static void jumpOutOfRam() {
        CHECK.sentence("1 the instruction is not in RAM");
        VirtioMachine m = new VirtioMachine();
        CHECK.due("the jump is done", Asm.does(m, Asm.jal(4, 4096 - Asm.AT)), NO_TRAP);
        CHECK.due("its link", m.register(4), Asm.AT + 4);
        CHECK.due("the step behind it", m.run(1), 0);
        CHECK.due("MCAUSE", m.csr(MCAUSE), 1);
        CHECK.due("MEPC", m.csr(MEPC), 4096);
        m.poke(0, Asm.branch(0, 0, 0, -4));
        m.jump(0);
        CHECK.due("the branch is done", m.run(1), 1);
        CHECK.due("PC", m.register(32), -4);
        m.run(1);
        CHECK.due("MEPC", m.csr(MEPC), -4);
    }

    private static void otherCauses() {
        CHECK.sentence("2 ILLEGAL, 3 EBREAK, 4 a load is misaligned, 5 a load faults, 6 a store is misaligned, "
            + "7 a store faults, 11 ECALL");
        int[][] cases = {{0, 2}, {Asm.EBREAK, 3}, {Asm.load(2, 4, 3, 2), 4}, {Asm.load(1, 4, 3, 1), 4},
            {Asm.load(5, 4, 3, 1), 4}, {Asm.load(2, 4, 3, 0), 5}, {Asm.load(0, 4, 3, 1), 5},
            {Asm.store(2, 4, 3, 2), 6}, {Asm.store(1, 4, 3, 1), 6}, {Asm.store(2, 4, 3, 0), 7},
            {Asm.store(0, 4, 3, 1), 7}, {Asm.ECALL, 11}};
        for (int[] c : cases) {
            VirtioMachine m = new VirtioMachine();
            Asm.setCsr(m, MTVEC, 256);
            CHECK.due("word " + Integer.toHexString(c[0]), Asm.doesWith(m, 4096, c[0]), c[1]);
            CHECK.due("MEPC", m.csr(MEPC), Asm.AT);
            CHECK.due("PC", m.register(32), 256);
            CHECK.due("x4", m.register(4), 0);
        }
    }

    private static void trapsCountForNothing() {
        CHECK.sentence("how many instructions were done without a trap");
        int[] traps = {Asm.ECALL, Asm.EBREAK, 0, Asm.jal(0, 2), Asm.load(2, 4, 0, 1), Asm.store(2, 4, 0, 1)};
        for (int trap : traps) {
            VirtioMachine m = new VirtioMachine();
            Asm.put(m, 0, Asm.addi(1, 1, 1), Asm.addi(1, 1, 1), trap);
            CHECK.due("run 100", m.run(100), 67);
            CHECK.due("x1", m.register(1), 67);
        }
        VirtioMachine m = new VirtioMachine();
        Asm.put(m, 0, Asm.NOP, Asm.WFI, Asm.NOP);
        CHECK.due("the WFI counts, the waiting not", m.run(100), 2);
        VirtioMachine n = new VirtioMachine();
        n.poke(0, Asm.MRET);
        CHECK.due("MRET counts", n.run(100), 100);
    }
}
