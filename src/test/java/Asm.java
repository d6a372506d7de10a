/** Words of instructions, by the formats of the RISC-V manual. */
final class Asm {
    static final int ECALL = 0x00000073;
    static final int EBREAK = 0x00100073;
    static final int MRET = 0x30200073;
    static final int WFI = 0x10500073;
    static final int NOP = 0x00000013;
    /** Where single instructions are done. */
    static final int AT = 3960;
    static final int NO_TRAP = -1;

    static int r(int funct7, int rs2, int rs1, int funct3, int rd, int opcode) {
        return funct7 << 25 | rs2 << 20 | rs1 << 15 | funct3 << 12 | rd << 7 | opcode;
    }

    static int i(int immediate, int rs1, int funct3, int rd, int opcode) {
        return immediate << 20 | rs1 << 15 | funct3 << 12 | rd << 7 | opcode;
    }

    static int op(int funct7, int funct3, int rd, int rs1, int rs2) {
        return r(funct7, rs2, rs1, funct3, rd, 0x33);
    }

    static int opImm(int funct3, int rd, int rs1, int immediate) {
        return i(immediate, rs1, funct3, rd, 0x13);
    }

    static int addi(int rd, int rs1, int immediate) {
        return opImm(0, rd, rs1, immediate);
    }

    static int lui(int rd, int upper) {
        return upper << 12 | rd << 7 | 0x37;
    }

    static int auipc(int rd, int upper) {
        return upper << 12 | rd << 7 | 0x17;
    }

    static int load(int funct3, int rd, int rs1, int offset) {
        return i(offset, rs1, funct3, rd, 0x03);
    }

    static int store(int funct3, int rs2, int rs1, int offset) {
        return (offset >> 5 & 127) << 25 | rs2 << 20 | rs1 << 15 | funct3 << 12 | (offset & 31) << 7 | 0x23;
    }

    static int branch(int funct3, int rs1, int rs2, int offset) {
        return (offset >> 12 & 1) << 31 | (offset >> 5 & 63) << 25 | rs2 << 20 | rs1 << 15 | funct3 << 12
            | (offset >> 1 & 15) << 8 | (offset >> 11 & 1) << 7 | 0x63;
    }

    static int jal(int rd, int offset) {
        return (offset >> 20 & 1) << 31 | (offset >> 1 & 1023) << 21 | (offset >> 11 & 1) << 20
            | (offset >> 12 & 255) << 12 | rd << 7 | 0x6F;
    }

    static int jalr(int rd, int rs1, int offset) {
        return i(offset, rs1, 0, rd, 0x67);
    }

    static int csr(int funct3, int rd, int number, int field) {
        return i(number, field, funct3, rd, 0x73);
    }

    /** Pokes instructions from an address on. */
    static void put(VirtioMachine m, int address, int... words) {
        for (int k = 0; k < words.length; k++) {
            m.poke(address + 4 * k, words[k]);
        }
    }

    /** Sets a register to any word by running a program at 3968, then jumps to the address. */
    static void set(VirtioMachine m, int rd, int value, int then) {
        int low = value << 20 >> 20;
        put(m, 3968, lui(rd, value - low >>> 12), addi(rd, rd, low));
        m.jump(3968);
        m.run(2);
        m.jump(then);
    }

    /** Does one instruction at AT: the cause of the trap that it ended in, or NO_TRAP. */
    static int does(VirtioMachine m, int instruction) {
        m.poke(AT, instruction);
        m.jump(AT);
        return m.run(1) == 1 ? NO_TRAP : m.csr(834);
    }

    /** The same with a word in x3, for accesses to any address. */
    static int doesWith(VirtioMachine m, int x3, int instruction) {
        set(m, 3, x3, AT);
        return does(m, instruction);
    }

    /** Writes a CSR by way of x31. */
    static void setCsr(VirtioMachine m, int number, int value) {
        set(m, 31, value, AT);
        does(m, csr(1, 0, number, 31));
    }
}
