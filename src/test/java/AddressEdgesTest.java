/** "Terms", addresses and accesses: each sentence that names an edge has a test of its own. */
public final class AddressEdgesTest {
    private static final Check CHECK = new Check();
    private static final int NO_TRAP = Asm.NO_TRAP;
    private static final int LB = 0;
    private static final int LH = 1;
    private static final int LW = 2;
    private static final int LBU = 4;
    private static final int LHU = 5;
    private static final int SB = 0;
    private static final int SH = 1;
    private static final int SW = 2;
    private static final int[] CONTROLLER = {4, 8, 16, 20, 24, 28};

    public static void main(String[] args) {
        lowestFirst();
        ram();
        ramAtFirst();
        placesOfRegisters();
        placesAreApart();
        wholeWordsAlone();
        otherBusAccesses();
        otherAccessesOfTheCore();
        deviceOffsets();
        misaligned();
        bytesAreNeverMisaligned();
        misalignedFirst();
        CHECK.end();
    }

    private static int load(VirtioMachine m, int kind, int address) {
        return Asm.doesWith(m, address, Asm.load(kind, 4, 3, 0));
    }

    private static int store(VirtioMachine m, int kind, int address) {
        return Asm.doesWith(m, address, Asm.store(kind, 3, 3, 0));
    }

    private static void lowestFirst() {
        CHECK.sentence("bytes stand lowest first");
        VirtioMachine m = new VirtioMachine();
        m.poke(512, 0x84838281);
        for (int k = 0; k < 4; k++) {
            load(m, LBU, 512 + k);
            CHECK.due("byte " + k, m.register(4), 0x81 + k);
        }
        load(m, LHU, 512);
        CHECK.due("half word 0", m.register(4), 0x8281);
        load(m, LHU, 514);
        CHECK.due("half word 1", m.register(4), 0x8483);
        store(m, SB, 513);
        CHECK.due("byte 1 stored", m.peek(512), 0x84830181);
        store(m, SH, 514);
        CHECK.due("half word 1 stored", m.peek(512), 0x02020181);
        store(m, SH, 512);
        CHECK.due("half word 0 stored", m.peek(512), 0x02020200);
    }

    private static void ram() {
        CHECK.sentence("Addresses 0 .. 4095 are RAM");
        VirtioMachine m = new VirtioMachine();
        for (int kind : new int[] {LB, LH, LW, LBU, LHU}) {
            int size = 1 << (kind & 3);
            CHECK.due("first load " + kind, load(m, kind, 0), NO_TRAP);
            CHECK.due("last load " + kind, load(m, kind, 4096 - size), NO_TRAP);
            CHECK.due("load behind it " + kind, load(m, kind, 4096), 5);
            CHECK.due("load ahead of it " + kind, load(m, kind, -size), 5);
        }
        for (int kind : new int[] {SB, SH, SW}) {
            int size = 1 << kind;
            CHECK.due("first store " + kind, store(m, kind, 0), NO_TRAP);
            CHECK.due("last store " + kind, store(m, kind, 4096 - size), NO_TRAP);
            CHECK.due("store behind it " + kind, store(m, kind, 4096), 7);
            CHECK.due("store ahead of it " + kind, store(m, kind, -size), 7);
        }
        CHECK.due("the last word", m.peek(4092), 4092);
    }

    private static void ramAtFirst() {
        CHECK.sentence("RAM (bytes, at first 0)");
        for (int from = 0; from < 4096; from += 1024) {
            VirtioMachine m = new VirtioMachine();
            for (int a = from; a < from + 1024; a += 4) {
                CHECK.due("word " + a, m.peek(a), 0);
            }
        }
    }

    private static void placesOfRegisters() {
        CHECK.sentence("From 4096 on lie the registers of the CONTROLLER, from 8192 on those of the DISK, "
            + "from 12288 on those of the CONSOLE");
        VirtioMachine m = new VirtioMachine();
        m.out(4096 + 24, 3);
        CHECK.due("threshold", m.in(4096 + 24), 3);
        CHECK.due("the disk's kind", m.in(8192 + 8), 2);
        CHECK.due("the console's kind", m.in(12288 + 8), 3);
        m.out(8192 + 112, 1);
        m.out(12288 + 112, 2);
        CHECK.due("the disk's status", m.in(8192 + 112), 1);
        CHECK.due("the console's status", m.in(12288 + 112), 2);
    }

    /** The same offset is written in one place after the other; each place answers for itself. */
    private static void placesAreApart() {
        CHECK.sentence("each by the offsets that are named below");
        VirtioMachine ram = new VirtioMachine();
        for (int offset = 0; offset <= 256; offset += 4) {
            ram.out(offset, 3);
        }
        CHECK.due("the controller behind RAM", ram.in(4100) + ram.in(4104) + ram.in(4116) + ram.in(4120), 0);
        CHECK.due("the devices behind RAM", ram.in(8192 + 112) + ram.in(12288 + 112), 0);
        VirtioMachine m = new VirtioMachine();
        for (int offset : CONTROLLER) {
            m.out(4096 + offset, 1);
        }
        CHECK.due("RAM behind the controller", m.peek(4) + m.peek(8) + m.peek(16) + m.peek(20) + m.peek(24), 0);
        CHECK.due("the disk's SELECT behind it", m.in(8192 + 16), 1 << 28);
        CHECK.due("the console's SELECT behind it", m.in(12288 + 16), 1 << 28);
        m.out(8192 + 20, 1);
        CHECK.due("the controller behind the disk", m.in(4116), 0);
        CHECK.due("the console behind the disk", m.in(12288 + 16), 1 << 28);
        m.out(8192 + 20, 0);
        m.out(12288 + 20, 1);
        CHECK.due("the controller behind the console", m.in(4116), 0);
        CHECK.due("the disk behind the console", m.in(8192 + 16), 1 << 28);
    }

    private static void partsFault(int address) {
        VirtioMachine m = new VirtioMachine();
        for (int kind : new int[] {LB, LH, LBU, LHU}) {
            CHECK.due("load " + kind + " at " + address, load(m, kind, address), 5);
            CHECK.due("load " + kind + " inside " + address, load(m, kind, address + 2), 5);
        }
        for (int kind : new int[] {SB, SH}) {
            CHECK.due("store " + kind + " at " + address, store(m, kind, address), 7);
            CHECK.due("store " + kind + " inside " + address, store(m, kind, address + 2), 7);
        }
        CHECK.due("load of the word at " + address, load(m, LW, address), NO_TRAP);
        CHECK.due("store of the word at " + address, store(m, SW, address), NO_TRAP);
    }

    private static void wholeWordsAlone() {
        CHECK.sentence("for whole words alone. Any other access (also of a byte or half word there) is a FAULT");
        for (int offset : CONTROLLER) {
            partsFault(4096 + offset);
        }
        for (int offset = 0; offset <= 256; offset += 4) {
            partsFault(8192 + offset);
            partsFault(12288 + offset);
        }
        VirtioMachine m = new VirtioMachine();
        m.out(4096 + 24, 5);
        Asm.doesWith(m, 4096 + 24, Asm.store(SB, 0, 3, 0));
        Asm.doesWith(m, 4096 + 24, Asm.store(SH, 0, 3, 0));
        CHECK.due("what faults does nothing", m.in(4096 + 24), 5);
    }

    private static boolean isThere(int address) {
        int offset = address & 4095;
        if (address < 4096) {
            return true;
        }
        if (address < 8192) {
            return offset == 4 || offset == 8 || offset >= 16 && offset <= 28;
        }
        return offset <= 256;
    }

    private static void otherBusAccesses() {
        CHECK.sentence("Any other access (also of a byte or half word there) is a FAULT");
        for (int from = 0; from < 16384; from += 512) {
            VirtioMachine m = new VirtioMachine();
            for (int a = from; a < from + 512; a += 4) {
                int address = a;
                CHECK.due("in " + a, Check.thrownBy(() -> m.in(address)), isThere(a) ? 0 : 2);
                CHECK.due("out " + a, Check.thrownBy(() -> m.out(address, 0)), isThere(a) ? 0 : 2);
            }
        }
        VirtioMachine m = new VirtioMachine();
        for (int a : new int[] {16384, 20480, 65536, 1 << 24, 0x7FFFFFFC, Integer.MIN_VALUE, -4096, -4}) {
            CHECK.outOfBounds("in " + a, () -> m.in(a));
            CHECK.outOfBounds("out " + a, () -> m.out(a, -1));
        }
    }

    private static void otherAccessesOfTheCore() {
        CHECK.sentence("5 a load faults, 6 a store is misaligned, 7 a store faults");
        for (int a : new int[] {4096, 4108, 4128, 8188, 8452, 12284, 12548, 16384, 65536, 0x7FFFFFFC,
            Integer.MIN_VALUE, -4}) {
            VirtioMachine m = new VirtioMachine();
            CHECK.due("load at " + a, load(m, LW, a), 5);
            CHECK.due("its target stays", m.register(4), 0);
            CHECK.due("store at " + a, store(m, SW, a), 7);
        }
    }

    private static void deviceOffsets() {
        CHECK.sentence("The offsets are the multiples of 4 from 0 to 256");
        VirtioMachine m = new VirtioMachine();
        for (int base : new int[] {8192, 12288}) {
            CHECK.due("in 0", Check.thrownBy(() -> m.in(base)), 0);
            CHECK.due("in 256", Check.thrownBy(() -> m.in(base + 256)), 0);
            CHECK.due("out 256", Check.thrownBy(() -> m.out(base + 256, 1)), 0);
            CHECK.outOfBounds("in 260", () -> m.in(base + 260));
            CHECK.outOfBounds("out 260", () -> m.out(base + 260, 1));
            CHECK.outOfBounds("in -4", () -> m.in(base - 4));
            CHECK.illegalArgument("in 255", () -> m.in(base + 255));
            CHECK.illegalArgument("in 2", () -> m.in(base + 2));
        }
    }

    private static void misaligned() {
        CHECK.sentence("An address that is not a multiple of the size of its access is MISALIGNED");
        VirtioMachine m = new VirtioMachine();
        for (int k = 0; k < 4; k++) {
            int address = 512 + k;
            CHECK.due("LW at " + address, load(m, LW, address), k == 0 ? NO_TRAP : 4);
            CHECK.due("LH at " + address, load(m, LH, address), k % 2 == 0 ? NO_TRAP : 4);
            CHECK.due("LHU at " + address, load(m, LHU, address), k % 2 == 0 ? NO_TRAP : 4);
            CHECK.due("in " + address, Check.thrownBy(() -> m.in(address)), k == 0 ? 0 : 1);
            CHECK.due("out " + address, Check.thrownBy(() -> m.out(address, 7)), k == 0 ? 0 : 1);
            CHECK.due("SW at " + address, store(m, SW, address), k == 0 ? NO_TRAP : 6);
            CHECK.due("SH at " + address, store(m, SH, address), k % 2 == 0 ? NO_TRAP : 6);
        }
        CHECK.due("what was stored", m.peek(512), 514 << 16 | 512);
        CHECK.due("behind it", m.peek(516), 0);
    }

    private static void bytesAreNeverMisaligned() {
        CHECK.sentence("An address that is not a multiple of the size of its access is MISALIGNED");
        VirtioMachine m = new VirtioMachine();
        for (int k = 0; k < 4; k++) {
            CHECK.due("LB", load(m, LB, 512 + k), NO_TRAP);
            CHECK.due("LBU", load(m, LBU, 512 + k), NO_TRAP);
            CHECK.due("SB", store(m, SB, 512 + k), NO_TRAP);
            CHECK.due("LB of a register", load(m, LB, 8192 + k), 5);
            CHECK.due("SB to a register", store(m, SB, 8192 + k), 7);
        }
    }

    private static void misalignedFirst() {
        CHECK.sentence("that is looked at first");
        for (int a : new int[] {4097, 4098, 8193, 8451, 12290, 16386, 0x7FFFFFFF, Integer.MIN_VALUE + 2, -1, -2, -3}) {
            VirtioMachine m = new VirtioMachine();
            CHECK.illegalArgument("in " + a, () -> m.in(a));
            CHECK.illegalArgument("out " + a, () -> m.out(a, 1));
            CHECK.due("LW at " + a, load(m, LW, a), 4);
            CHECK.due("SW at " + a, store(m, SW, a), 6);
            CHECK.due("LH at " + a, load(m, LH, a), a % 2 == 0 ? 5 : 4);
            CHECK.due("LHU at " + a, load(m, LHU, a), a % 2 == 0 ? 5 : 4);
            CHECK.due("SH at " + a, store(m, SH, a), a % 2 == 0 ? 7 : 6);
        }
    }
}
