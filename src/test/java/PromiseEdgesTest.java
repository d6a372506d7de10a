/** Promises 1 to 14: each sentence that names an edge, a refused call or an exception has a test of its own. */
public final class PromiseEdgesTest {
    private static final Check CHECK = new Check();
    private static final int[] CSRS = {768, 772, 773, 832, 833, 834, 836};
    private static final int[] NO_WORDS_OF_RAM = {1, 2, 3, 4093, 4094, 4095, 4096, 4100, 8192, 12288, 16384, 65536,
        0x7FFFFFFC, 0x7FFFFFFF, Integer.MIN_VALUE, Integer.MIN_VALUE + 1, -4, -3, -1};

    public static void main(String[] args) {
        allAsAtFirst();
        objectsAreApart();
        pokeInRam();
        pokeRefused();
        peekInRam();
        peekThrows();
        inAsByTheCore();
        inMisaligned();
        inFaults();
        outAsByTheCore();
        outMisaligned();
        outFaults();
        runSteps();
        runCounts();
        runNoStep();
        runRefused();
        serveAlone();
        jumpAnywhere();
        jumpEndsWaiting();
        jumpRefused();
        registers();
        registerThrows();
        csrs();
        csrThrows();
        waits();
        keyLowestEightBits();
        keyRefused();
        printedCharacters();
        printedHowMany();
        printedThrows();
        diskBytes();
        diskThrows();
        CHECK.end();
    }

    private static void allAsAtFirst() {
        CHECK.sentence("All as at first");
        VirtioMachine m = new VirtioMachine();
        for (int i = 0; i <= 32; i++) {
            CHECK.due("register " + i, m.register(i), 0);
        }
        for (int number : CSRS) {
            CHECK.due("csr " + number, m.csr(number), 0);
        }
        CHECK.due("waits", m.waits(), false);
        CHECK.due("printed", m.printed(-1), 0);
        CHECK.due("the first byte of the disk", m.disk(0), 0);
        CHECK.due("the last byte of the disk", m.disk(255), 0);
        CHECK.due("RAM", m.peek(0) | m.peek(4092), 0);
        CHECK.due("the disk's status", m.in(8192 + 112), 0);
        CHECK.due("the console's status", m.in(12288 + 112), 0);
        CHECK.due("no input waits", m.key(1), 1);
    }

    private static void objectsAreApart() {
        CHECK.sentence("All as at first");
        VirtioMachine m = new VirtioMachine();
        VirtioMachine n = new VirtioMachine();
        m.poke(0, Asm.addi(1, 0, 7));
        m.run(1);
        m.out(8192 + 112, 3);
        m.out(4120, 5);
        m.key(1);
        CHECK.due("RAM", n.peek(0), 0);
        CHECK.due("x1", n.register(1), 0);
        CHECK.due("PC", n.register(32), 0);
        CHECK.due("status", n.in(8192 + 112), 0);
        CHECK.due("threshold", n.in(4120), 0);
        CHECK.due("input", n.key(1), 1);
        CHECK.due("RAM of a third", new VirtioMachine().peek(0), 0);
    }

    private static void pokeInRam() {
        CHECK.sentence("A word of RAM becomes this");
        VirtioMachine m = new VirtioMachine();
        for (int word : new int[] {0, 1, -1, Integer.MIN_VALUE, Integer.MAX_VALUE, 0x12345678}) {
            for (int address : new int[] {0, 4, 2048, 4088, 4092}) {
                CHECK.due("poke", m.poke(address, word), true);
                CHECK.due("peek", m.peek(address), word);
            }
        }
        CHECK.due("beside them", m.peek(8) | m.peek(2044) | m.peek(2052) | m.peek(4084), 0);
    }

    private static void pokeRefused() {
        CHECK.sentence("false, refused, if the address is no multiple of 4 or not in RAM");
        VirtioMachine m = new VirtioMachine();
        m.poke(0, 11);
        m.poke(4092, 22);
        for (int address : NO_WORDS_OF_RAM) {
            CHECK.due("poke " + address, m.poke(address, 33), false);
            CHECK.due("the first word is as it was", m.peek(0), 11);
            CHECK.due("the last word is as it was", m.peek(4092), 22);
        }
        CHECK.due("a register", m.poke(4120, 5), false);
        CHECK.due("it is as it was", m.in(4120), 0);
    }

    private static void peekInRam() {
        CHECK.sentence("A word of RAM.");
        for (int from = 0; from < 4096; from += 512) {
            VirtioMachine m = new VirtioMachine();
            for (int address = from; address < from + 512; address += 4) {
                m.poke(address, ~address);
            }
            for (int address = from; address < from + 512; address += 4) {
                CHECK.due("peek " + address, m.peek(address), ~address);
            }
        }
    }

    private static void peekThrows() {
        CHECK.sentence("IllegalArgumentException if the address is no multiple of 4 or not in RAM");
        VirtioMachine m = new VirtioMachine();
        for (int address : NO_WORDS_OF_RAM) {
            CHECK.illegalArgument("peek " + address, () -> m.peek(address));
        }
        CHECK.illegalArgument("peek of a register", () -> m.peek(8192));
        CHECK.due("peek 0", Check.thrownBy(() -> m.peek(0)), 0);
        CHECK.due("peek 4092", Check.thrownBy(() -> m.peek(4092)), 0);
    }

    private static void inAsByTheCore() {
        CHECK.sentence("The bus is read, a whole word, as by the core");
        VirtioMachine m = new VirtioMachine();
        m.poke(4092, -7);
        for (int address : new int[] {0, 4092, 4100, 8192, 8200, 8448, 12296, 12544}) {
            Asm.doesWith(m, address, Asm.load(2, 4, 3, 0));
            CHECK.due("in " + address, m.in(address), m.register(4));
        }
        VirtioMachine n = new VirtioMachine();
        Driver.disk(n).offer(99);
        n.serve();
        n.out(4100, 1);
        n.out(4116, 2);
        CHECK.due("a claim by in", n.in(4124), 1);
        CHECK.due("it is claimed", n.in(4112), 0);
    }

    private static void inMisaligned() {
        CHECK.sentence("IllegalArgumentException if that is misaligned");
        VirtioMachine m = new VirtioMachine();
        for (int address : new int[] {1, 2, 3, 4095, 4097, 8194, 12289, 16385, -1, -2, Integer.MIN_VALUE + 1}) {
            CHECK.illegalArgument("in " + address, () -> m.in(address));
        }
    }

    private static void inFaults() {
        CHECK.sentence("IndexOutOfBoundsException if it faults");
        VirtioMachine m = new VirtioMachine();
        for (int address : new int[] {4096, 4108, 4128, 8188, 8452, 12284, 12548, 16384, 65536, -4, Integer.MIN_VALUE}) {
            CHECK.outOfBounds("in " + address, () -> m.in(address));
        }
    }

    private static void outAsByTheCore() {
        CHECK.sentence("The bus is written, a whole word, as by the core");
        VirtioMachine m = new VirtioMachine();
        m.out(0, -5);
        m.out(4092, 6);
        m.out(4120, 13);
        m.out(8192 + 112, 1);
        CHECK.due("RAM", m.peek(0), -5);
        CHECK.due("RAM", m.peek(4092), 6);
        CHECK.due("threshold", m.in(4120), 5);
        CHECK.due("status", m.in(8192 + 112), 1);
        VirtioMachine n = new VirtioMachine();
        Asm.set(n, 4, 13, 0);
        Asm.doesWith(n, 4120, Asm.store(2, 4, 3, 0));
        CHECK.due("threshold, by the core", n.in(4120), 5);
    }

    private static void outMisaligned() {
        CHECK.sentence("Exceptions as with in");
        VirtioMachine m = new VirtioMachine();
        m.poke(0, 7);
        for (int address : new int[] {1, 2, 3, 4095, 4097, 8194, 12289, 16385, -1, -2, Integer.MIN_VALUE + 1}) {
            CHECK.illegalArgument("out " + address, () -> m.out(address, -1));
        }
        CHECK.due("RAM is as it was", m.peek(0), 7);
        CHECK.due("RAM is as it was", m.peek(4092), 0);
    }

    private static void outFaults() {
        CHECK.sentence("Exceptions as with in");
        VirtioMachine m = new VirtioMachine();
        for (int address : new int[] {4096, 4108, 4128, 8188, 8452, 12284, 12548, 16384, 65536, -4, Integer.MIN_VALUE}) {
            CHECK.outOfBounds("out " + address, () -> m.out(address, -1));
        }
        CHECK.due("RAM is as it was", m.peek(0) | m.peek(4092), 0);
    }

    private static VirtioMachine counting() {
        VirtioMachine m = new VirtioMachine();
        Asm.put(m, 0, Asm.addi(1, 1, 1), Asm.jal(0, -4));
        return m;
    }

    private static void runSteps() {
        CHECK.sentence("So many steps of the computer (0 .. 100)");
        for (int steps : new int[] {1, 2, 50, 99, 100}) {
            VirtioMachine m = counting();
            CHECK.due("run " + steps, m.run(steps), steps);
            CHECK.due("x1", m.register(1), (steps + 1) / 2);
        }
    }

    private static void runCounts() {
        CHECK.sentence("how many instructions were done without a trap");
        VirtioMachine m = new VirtioMachine();
        Asm.put(m, 0, Asm.NOP, Asm.ECALL);
        CHECK.due("every second one", m.run(100), 50);
        CHECK.due("none but traps", new VirtioMachine().run(100), 0);
        VirtioMachine n = new VirtioMachine();
        Asm.put(n, 0, Asm.NOP, Asm.WFI);
        CHECK.due("two, then waiting", n.run(100), 2);
        CHECK.due("waiting", n.run(100), 0);
    }

    private static void runNoStep() {
        CHECK.sentence("So many steps of the computer (0 .. 100)");
        VirtioMachine m = counting();
        Driver d = Driver.transmit(m).descriptor(0, 3072, 1, 0, 0).offer(0);
        CHECK.due("run 0", m.run(0), 0);
        CHECK.due("PC", m.register(32), 0);
        CHECK.due("chains done", d.usedIndex(), 0);
    }

    private static void runRefused() {
        CHECK.sentence("-1, refused, if it is not 0 .. 100");
        VirtioMachine m = counting();
        Driver d = Driver.transmit(m).descriptor(0, 3072, 1, 0, 0).offer(0);
        for (int steps : new int[] {-1, 101, 1000, -100, Integer.MIN_VALUE, Integer.MAX_VALUE}) {
            CHECK.due("run " + steps, m.run(steps), -1);
            CHECK.due("PC", m.register(32), 0);
            CHECK.due("x1", m.register(1), 0);
            CHECK.due("chains done", d.usedIndex(), 0);
        }
    }

    private static void serveAlone() {
        CHECK.sentence("The devices alone make a step");
        VirtioMachine m = counting();
        m.poke(3072, 4);
        Driver disk = Driver.disk(m).descriptor(0, 3072, 16, 1, 1).descriptor(1, 3100, 1, 2, 0).offer(0).offer(0);
        Driver console = Driver.transmit(m).descriptor(0, 3072, 1, 0, 0).offer(0).offer(0);
        for (int k = 1; k <= 2; k++) {
            m.serve();
            CHECK.due("the disk's chains", disk.usedIndex(), k);
            CHECK.due("the console's chains", console.usedIndex(), k);
            CHECK.due("PC", m.register(32), 0);
            CHECK.due("x1", m.register(1), 0);
        }
        VirtioMachine n = new VirtioMachine();
        n.poke(0, Asm.WFI);
        n.run(1);
        n.serve();
        CHECK.due("waits", n.waits(), true);
    }

    private static void jumpAnywhere() {
        CHECK.sentence("PC becomes this");
        VirtioMachine m = new VirtioMachine();
        for (int pc : new int[] {4, 0, 4092, 4096, 8192, 0x7FFFFFFC, Integer.MIN_VALUE, -4}) {
            CHECK.due("jump " + pc, m.jump(pc), true);
            CHECK.due("PC", m.register(32), pc);
        }
        CHECK.due("no trap", m.csr(833) | m.csr(834), 0);
    }

    private static VirtioMachine waiting() {
        VirtioMachine m = new VirtioMachine();
        Asm.put(m, 0, Asm.WFI, Asm.addi(1, 1, 1));
        m.run(1);
        return m;
    }

    private static void jumpEndsWaiting() {
        CHECK.sentence("which is no longer waiting");
        VirtioMachine m = waiting();
        CHECK.due("waits", m.waits(), true);
        CHECK.due("jump to where it is", m.jump(4), true);
        CHECK.due("waits", m.waits(), false);
        CHECK.due("run", m.run(1), 1);
        CHECK.due("x1", m.register(1), 1);
    }

    private static void jumpRefused() {
        CHECK.sentence("false, refused, if it is no multiple of 4");
        VirtioMachine m = waiting();
        for (int pc : new int[] {1, 2, 3, 5, 4097, 4098, -1, -2, -3, Integer.MAX_VALUE, Integer.MIN_VALUE + 2}) {
            CHECK.due("jump " + pc, m.jump(pc), false);
            CHECK.due("PC", m.register(32), 4);
            CHECK.due("waits", m.waits(), true);
        }
    }

    private static void registers() {
        CHECK.sentence("Register i, PC (32)");
        VirtioMachine m = new VirtioMachine();
        for (int i = 0; i < 32; i++) {
            m.poke(4 * i, Asm.addi(i, 0, -1 - i));
        }
        m.run(32);
        for (int i = 0; i < 32; i++) {
            CHECK.due("register " + i, m.register(i), i == 0 ? 0 : -1 - i);
        }
        CHECK.due("PC", m.register(32), 128);
    }

    private static void registerThrows() {
        CHECK.sentence("IndexOutOfBoundsException if there is none");
        VirtioMachine m = new VirtioMachine();
        for (int i : new int[] {-1, -32, 33, 64, 256, Integer.MIN_VALUE, Integer.MAX_VALUE}) {
            CHECK.outOfBounds("register " + i, () -> m.register(i));
        }
    }

    private static void csrs() {
        CHECK.sentence("A CSR.");
        VirtioMachine m = new VirtioMachine();
        int[] values = {0x88, 0x800, 1024, 0x12345678, 2048, 99, 0};
        for (int k = 0; k < CSRS.length; k++) {
            Asm.setCsr(m, CSRS[k], values[k]);
        }
        for (int k = 0; k < CSRS.length; k++) {
            CHECK.due("csr " + CSRS[k], m.csr(CSRS[k]), values[k]);
        }
    }

    private static void csrThrows() {
        CHECK.sentence("A CSR. IndexOutOfBoundsException if there is none");
        for (int from = -8; from < 4104; from += 256) {
            VirtioMachine m = new VirtioMachine();
            for (int number = from; number < from + 256; number++) {
                int n = number;
                boolean there = n == 768 || n == 772 || n == 773 || n >= 832 && n <= 834 || n == 836;
                CHECK.due("csr " + n, Check.thrownBy(() -> m.csr(n)), there ? 0 : 2);
            }
        }
        VirtioMachine m = new VirtioMachine();
        for (int number : new int[] {Integer.MIN_VALUE, Integer.MAX_VALUE, 768 + 4096, 768 + 65536, -768}) {
            CHECK.outOfBounds("csr " + number, () -> m.csr(number));
        }
    }

    private static void waits() {
        CHECK.sentence("Whether the core waits behind a WFI");
        VirtioMachine m = new VirtioMachine();
        Asm.put(m, 0, Asm.NOP, Asm.WFI, Asm.NOP);
        CHECK.due("at first", m.waits(), false);
        m.run(1);
        CHECK.due("at the WFI", m.waits(), false);
        m.run(1);
        CHECK.due("behind it", m.waits(), true);
        CHECK.due("PC", m.register(32), 8);
        m.run(100);
        CHECK.due("still", m.waits(), true);
    }

    private static void keyLowestEightBits() {
        CHECK.sentence("A character of input for the console (its lowest eight bits): how many wait");
        VirtioMachine m = new VirtioMachine();
        int[] typed = {0, 255, 256, 511, -1, -256, Integer.MIN_VALUE, Integer.MAX_VALUE, 65, 321};
        for (int k = 0; k < typed.length; k++) {
            CHECK.due("key " + typed[k], m.key(typed[k]), k + 1);
        }
        Driver d = Driver.receive(m).descriptor(0, 3072, 16, Driver.WRITE, 0).offer(0);
        m.serve();
        CHECK.due("length", d.usedLength(0), typed.length);
        for (int k = 0; k < typed.length; k++) {
            CHECK.due("character " + k, Driver.octet(m, 3072 + k), typed[k] & 255);
        }
        CHECK.due("how many wait", m.key(1), 1);
    }

    private static void keyRefused() {
        CHECK.sentence("-1, refused, if 16 wait");
        VirtioMachine m = new VirtioMachine();
        for (int k = 1; k <= 16; k++) {
            CHECK.due("key", m.key(k), k);
        }
        CHECK.due("the 17th", m.key(17), -1);
        CHECK.due("again", m.key(18), -1);
        Driver d = Driver.receive(m).descriptor(0, 3072, 32, Driver.WRITE, 0).offer(0);
        m.serve();
        CHECK.due("those that were refused do not come", d.usedLength(0), 16);
        CHECK.due("the last", Driver.octet(m, 3072 + 15), 16);
        CHECK.due("key", m.key(1), 1);
    }

    private static VirtioMachine printing(int count) {
        VirtioMachine m = new VirtioMachine();
        for (int k = 0; k < 120; k += 4) {
            Driver.setOctets(m, 3072 + k, 255 - k, 254 - k, 253 - k, 252 - k);
        }
        Driver.transmit(m).descriptor(0, 3072, count, 0, 0).offer(0);
        m.serve();
        return m;
    }

    private static void printedCharacters() {
        CHECK.sentence("Character i of the output (0 .. 255)");
        VirtioMachine m = printing(120);
        for (int k = 0; k < 120; k++) {
            CHECK.due("character " + k, m.printed(k), 255 - k);
        }
    }

    private static void printedHowMany() {
        CHECK.sentence("i = -1: how many");
        for (int count : new int[] {0, 1, 119, 120, 121}) {
            CHECK.due("of " + count, printing(count).printed(-1), count < 120 ? count : 120);
        }
    }

    private static void printedThrows() {
        CHECK.sentence("i = -1: how many. IndexOutOfBoundsException if there is none");
        for (int count : new int[] {0, 1, 119, 120}) {
            VirtioMachine m = printing(count);
            for (int i : new int[] {count, count + 1, 120, 121, -2, Integer.MIN_VALUE, Integer.MAX_VALUE}) {
                CHECK.outOfBounds("character " + i + " of " + count, () -> m.printed(i));
            }
            if (count > 0) {
                CHECK.due("the last of " + count, m.printed(count - 1), 256 - count);
            }
        }
    }

    private static void diskBytes() {
        CHECK.sentence("Byte i of the disk (0 .. 255 each)");
        VirtioMachine m = new VirtioMachine();
        m.poke(2048, 1);
        for (int k = 0; k < 64; k++) {
            m.poke(2064 + 4 * k, (252 - 4 * k) * 0x01010101 + 0x00010203);
        }
        Driver.disk(m).descriptor(0, 2048, 272, Driver.NEXT, 1).descriptor(1, 3000, 1, Driver.WRITE, 0).offer(0);
        m.serve();
        for (int i = 0; i < 256; i++) {
            CHECK.due("byte " + i, m.disk(i), 255 - i);
        }
    }

    private static void diskThrows() {
        CHECK.sentence("Byte i of the disk (0 .. 255 each). IndexOutOfBoundsException if there is none");
        VirtioMachine m = new VirtioMachine();
        for (int i : new int[] {-1, 256, 257, 4096, Integer.MIN_VALUE, Integer.MAX_VALUE}) {
            CHECK.outOfBounds("disk " + i, () -> m.disk(i));
        }
        CHECK.due("disk 0", Check.thrownBy(() -> m.disk(0)), 0);
        CHECK.due("disk 255", Check.thrownBy(() -> m.disk(255)), 0);
    }
}
