/** Promises 7, 12 and 13: the console's input and output. */
public final class ConsoleTest {
    private static final Check CHECK = new Check();
    private static final int NEXT = Driver.NEXT;
    private static final int WRITE = Driver.WRITE;
    private static final int BUFFER = 3072;

    public static void main(String[] args) {
        receive();
        receiveInParts();
        receiveWaitsForInput();
        receiveNothing();
        inputGoesRound();
        transmitIsCut();
        transmitFromManyBuffers();
        receiveComesFirst();
        badReceiveHoldsTransmit();
        resetKeepsInputAndOutput();
        interruptNeedsNoPoll();
        CHECK.end();
    }

    private static Driver withInput(int count) {
        VirtioMachine m = new VirtioMachine();
        for (int k = 0; k < count; k++) {
            CHECK.due("key", m.key(250 + k), k + 1);
        }
        return Driver.receive(m);
    }

    private static void receive() {
        for (int count : new int[] {1, 5, 16}) {
            for (int room : new int[] {1, 4, 16, 40}) {
                Driver d = withInput(count).descriptor(0, BUFFER, room, WRITE, 0).offer(0);
                d.m.serve();
                int filled = Math.min(count, room);
                CHECK.due("length", d.usedLength(0), filled);
                for (int k = 0; k < 40; k++) {
                    CHECK.due("filled", Driver.octet(d.m, BUFFER + k), k < filled ? 250 + k & 255 : 0);
                }
                int left = count - filled;
                CHECK.due("how many wait", d.m.key(1), left + 1);
            }
        }
    }

    private static void receiveInParts() {
        Driver d = withInput(9).descriptor(0, 2000, 3, NEXT, 1).descriptor(1, BUFFER + 1, 2, WRITE | NEXT, 2)
            .descriptor(2, 100, 0, WRITE | NEXT, 3).descriptor(3, BUFFER + 11, 5, WRITE, 0).offer(0).offer(0);
        d.m.serve();
        CHECK.due("length", d.usedLength(0), 7);
        CHECK.due("filled", d.m.peek(BUFFER), 250 << 8 | 251 << 16);
        CHECK.due("filled", d.m.peek(BUFFER + 8), 252 << 24);
        CHECK.due("filled", d.m.peek(BUFFER + 12), 253 | 254 << 8 | 255 << 16);
        CHECK.due("what can be read is not", d.m.peek(2000), 0);
        d.m.serve();
        CHECK.due("length", d.usedLength(1), 2);
        CHECK.due("filled", d.m.peek(BUFFER), 1 << 8 | 2 << 16);
        CHECK.due("printed", d.m.printed(-1), 0);
    }

    private static void receiveWaitsForInput() {
        Driver d = withInput(0).descriptor(0, BUFFER, 4, WRITE, 0).offer(0);
        d.m.serve();
        CHECK.due("used", d.usedIndex(), 0);
        d.m.key(-1);
        d.m.serve();
        CHECK.due("used", d.usedIndex(), 1);
        CHECK.due("filled", d.m.peek(BUFFER), 255);
        Driver bad = withInput(0).offer(99);
        bad.m.serve();
        CHECK.due("a bad chain waits too", bad.status(), 15);
        bad.m.key(1);
        bad.m.serve();
        CHECK.due("then it is found", bad.status(), 79);
        CHECK.due("the input stays", bad.m.key(1), 2);
    }

    private static void receiveNothing() {
        Driver[] bad = {withInput(1).descriptor(0, BUFFER, 4, 0, 0).offer(0),
            withInput(1).descriptor(0, BUFFER, 0, WRITE, 0).offer(0),
            withInput(1).descriptor(0, BUFFER, 4, NEXT, 1).descriptor(1, BUFFER, 0, WRITE, 0).offer(0)};
        for (Driver d : bad) {
            d.m.serve();
            CHECK.due("nothing can be written: status", d.status(), 79);
            CHECK.due("interrupts", d.interrupts(), 2);
            CHECK.due("used", d.usedIndex(), 0);
            CHECK.due("the input stays", d.m.key(1), 2);
        }
    }

    private static void inputGoesRound() {
        Driver d = withInput(0).descriptor(0, BUFFER, 5, WRITE, 0);
        int typed = 0;
        int taken = 0;
        for (int round = 0; round < 20; round++) {
            while (typed - taken < 16) {
                CHECK.due("key", d.m.key(typed), typed - taken + 1);
                typed++;
            }
            CHECK.due("16 wait", d.m.key(typed), -1);
            d.offer(0);
            d.m.serve();
            for (int k = 0; k < 5; k++) {
                CHECK.due("in order", Driver.octet(d.m, BUFFER + k), taken++);
            }
        }
    }

    private static void transmitIsCut() {
        VirtioMachine m = new VirtioMachine();
        Driver d = Driver.transmit(m);
        for (int k = 0; k < 128; k += 4) {
            Driver.setOctets(m, BUFFER + k, 200 + k, 201 + k, 202 + k, 203 + k);
        }
        d.descriptor(0, BUFFER, 50, 0, 0).descriptor(1, BUFFER, 100, 0, 0).offer(0).offer(1).offer(1);
        m.serve();
        CHECK.due("printed", m.printed(-1), 50);
        CHECK.due("character", m.printed(49), 249);
        CHECK.outOfBounds("printed 50", () -> m.printed(50));
        m.serve();
        CHECK.due("printed", m.printed(-1), 120);
        CHECK.due("character", m.printed(50), 200);
        CHECK.due("character", m.printed(119), 200 + 69 & 255);
        CHECK.outOfBounds("printed 120", () -> m.printed(120));
        m.serve();
        CHECK.due("printed", m.printed(-1), 120);
        CHECK.due("no room is no fault", d.usedIndex(), 3);
        CHECK.due("length", d.usedLength(1), 0);
        CHECK.due("status", d.status(), 15);
        CHECK.due("character", m.printed(0), 200);
    }

    private static void transmitFromManyBuffers() {
        VirtioMachine m = new VirtioMachine();
        Driver d = Driver.transmit(m);
        m.poke(BUFFER, 0x44434241);
        m.poke(BUFFER + 4, 0xFF464580);
        d.descriptor(0, BUFFER + 3, 2, NEXT, 1).descriptor(1, BUFFER, 1, NEXT, 2).descriptor(2, BUFFER + 7, 1, NEXT, 3)
            .descriptor(3, BUFFER, 8, WRITE, 0).offer(0);
        m.serve();
        CHECK.due("printed", m.printed(-1), 4);
        int[] want = {0x44, 0x80, 0x41, 0xFF};
        for (int k = 0; k < 4; k++) {
            CHECK.due("character " + k, m.printed(k), want[k]);
        }
        CHECK.due("what can be written is not", m.peek(BUFFER), 0x44434241);
        CHECK.due("length", d.usedLength(0), 0);
    }

    private static void receiveComesFirst() {
        Driver in = withInput(2).descriptor(0, BUFFER, 1, WRITE, 0).offer(0).offer(0).offer(0);
        Driver out = new Driver(in.m, Driver.CONSOLE, 1, 4).descriptor(0, BUFFER, 1, 0, 0).offer(0).offer(0);
        int[][] used = {{1, 0}, {2, 0}, {2, 1}, {2, 2}, {2, 2}};
        for (int[] u : used) {
            in.m.serve();
            CHECK.due("received", in.usedIndex(), u[0]);
            CHECK.due("transmitted", out.usedIndex(), u[1]);
        }
        CHECK.due("printed", in.m.printed(1), 251);
        in.m.key(1);
        out.offer(0);
        in.m.serve();
        CHECK.due("received", in.usedIndex(), 3);
        in.m.key(1);
        in.m.serve();
        CHECK.due("input without a chain does not hold transmit", out.usedIndex(), 3);
    }

    private static void badReceiveHoldsTransmit() {
        Driver in = withInput(1).offer(99);
        Driver out = new Driver(in.m, Driver.CONSOLE, 1, 4).descriptor(0, BUFFER, 1, 0, 0).offer(0);
        in.m.serve();
        in.m.serve();
        CHECK.due("status", in.status(), 79);
        CHECK.due("transmitted", out.usedIndex(), 0);
    }

    private static void resetKeepsInputAndOutput() {
        VirtioMachine m = new VirtioMachine();
        Driver d = Driver.transmit(m).descriptor(0, BUFFER, 3, 0, 0).offer(0);
        m.serve();
        m.key(5);
        m.out(Driver.CONSOLE + 112, 0);
        CHECK.due("printed", m.printed(-1), 3);
        CHECK.due("key", m.key(6), 2);
        CHECK.due("interrupts", d.interrupts(), 0);
        CHECK.due("pending", m.in(4112), 4);
        m.serve();
        CHECK.due("not live", d.usedIndex(), 1);
    }

    /** A chain that is done in a step interrupts the core in the next one. */
    private static void interruptNeedsNoPoll() {
        Driver d = withInput(0).descriptor(0, BUFFER, 1, WRITE, 0).offer(0);
        VirtioMachine m = d.m;
        m.out(4104, 1);
        m.out(4116, 4);
        Asm.set(m, 1, 2048, 0);
        Asm.put(m, 0, Asm.csr(1, 0, 772, 1), Asm.csr(5, 0, 768, 8), Asm.WFI, Asm.NOP);
        CHECK.due("run", m.run(10), 3);
        m.key(77);
        CHECK.due("the core still waits", m.run(1), 0);
        CHECK.due("waits", m.waits(), true);
        CHECK.due("line", m.csr(836), 2048);
        m.run(1);
        CHECK.due("waits", m.waits(), false);
        CHECK.due("cause", m.csr(834), -2147483637);
        CHECK.due("mepc", m.csr(833), 12);
    }
}
