/** "Terms", the console and the computer's steps: each sentence that names an edge has a test of its own. */
public final class ConsoleEdgesTest {
    private static final Check CHECK = new Check();
    private static final int NEXT = Driver.NEXT;
    private static final int WRITE = Driver.WRITE;
    private static final int BUFFER = 3072;

    public static void main(String[] args) {
        inputIsFull();
        inputHasRoomAgain();
        inputGoesRound();
        outputIsFull();
        outputWithoutRoom();
        outputToTheLastCharacter();
        receiveOnlyWhileInputWaits();
        badReceiveOnlyWhileInputWaits();
        receiveAsFarAsThereIsInput();
        receiveAsFarAsThereIsRoom();
        receiveExactly();
        receiveOverEmptyBuffers();
        receiveLeavesWhatCanBeRead();
        receiveWithNothingToWrite();
        receiveLength();
        transmitAsFarAsThereIsRoom();
        transmitOfNothing();
        transmitLeavesWhatCanBeWritten();
        transmitLength();
        receiveAheadOfTransmit();
        transmitWithoutInput();
        transmitWithoutAReceiveChain();
        transmitWithReceiveNotReady();
        noTransmitBehindABadReceive();
        noReceiveBehindABadTransmit();
        oneChainInAStep();
        bothDevicesInAStep();
        devicesWhileTheCoreWaits();
        interruptInTheNextStep();
        CHECK.end();
    }

    private static Driver withInput(int count) {
        VirtioMachine m = new VirtioMachine();
        for (int k = 0; k < count; k++) {
            m.key(97 + k);
        }
        return Driver.receive(m);
    }

    private static Driver withLetters() {
        VirtioMachine m = new VirtioMachine();
        for (int k = 0; k < 128; k += 4) {
            Driver.setOctets(m, BUFFER + k, 100 + k, 101 + k, 102 + k, 103 + k);
        }
        return Driver.transmit(m);
    }

    private static void inputIsFull() {
        CHECK.sentence("THE CONSOLE has INPUT characters that wait (at most 16)");
        Driver d = withInput(15);
        CHECK.due("the 16th", d.m.key(200), 16);
        CHECK.due("the 17th", d.m.key(201), -1);
        CHECK.due("the 17th again", d.m.key(202), -1);
        d.descriptor(0, BUFFER, 32, WRITE, 0).offer(0);
        d.m.serve();
        CHECK.due("length", d.usedLength(0), 16);
        CHECK.due("the first", Driver.octet(d.m, BUFFER), 97);
        CHECK.due("the last", Driver.octet(d.m, BUFFER + 15), 200);
        CHECK.due("behind it", Driver.octet(d.m, BUFFER + 16), 0);
    }

    private static void inputHasRoomAgain() {
        CHECK.sentence("-1, refused, if 16 wait");
        Driver d = withInput(16).descriptor(0, BUFFER, 1, WRITE, 0).offer(0);
        CHECK.due("with 16", d.m.key(1), -1);
        d.m.serve();
        CHECK.due("with 15", d.m.key(1), 16);
        CHECK.due("with 16", d.m.key(1), -1);
    }

    private static void inputGoesRound() {
        CHECK.sentence("INPUT characters that wait (at most 16)");
        Driver d = withInput(0).descriptor(0, BUFFER, 7, WRITE, 0);
        int typed = 0;
        int taken = 0;
        for (int round = 0; round < 6; round++) {
            int waiting = typed - taken;
            for (int k = waiting; k < 16; k++) {
                typed++;
                CHECK.due("key " + typed, d.m.key(typed), k + 1);
            }
            CHECK.due("key beyond 16", d.m.key(99), -1);
            d.offer(0);
            d.m.serve();
            for (int k = 0; k < 7; k++) {
                taken++;
                CHECK.due("character " + taken, Driver.octet(d.m, BUFFER + k), taken);
            }
        }
        CHECK.due("typed", typed, taken + 9);
    }

    private static void outputIsFull() {
        CHECK.sentence("and OUTPUT (at most 120)");
        Driver d = withLetters().descriptor(0, BUFFER, 128, 0, 0).offer(0);
        d.m.serve();
        CHECK.due("printed", d.m.printed(-1), 120);
        for (int k = 0; k < 120; k++) {
            CHECK.due("character " + k, d.m.printed(k), 100 + k & 255);
        }
        CHECK.outOfBounds("character 120", () -> d.m.printed(120));
    }

    private static void outputWithoutRoom() {
        CHECK.sentence("what can be read comes to the output as far as there is room; length 0");
        Driver d = withLetters().descriptor(0, BUFFER, 120, 0, 0).descriptor(1, BUFFER + 7, 5, 0, 0).offer(0).offer(1);
        d.m.serve();
        d.m.out(Driver.CONSOLE + 100, 1);
        d.m.serve();
        CHECK.due("printed", d.m.printed(-1), 120);
        CHECK.due("the last is as it was", d.m.printed(119), 219);
        CHECK.due("the chain is done", d.usedIndex(), 2);
        CHECK.due("its head", d.usedHead(1), 1);
        CHECK.due("status", d.status(), 15);
        CHECK.due("interrupts", d.interrupts(), 1);
    }

    private static void outputToTheLastCharacter() {
        CHECK.sentence("as far as there is room");
        for (int first : new int[] {119, 118}) {
            Driver d = withLetters().descriptor(0, BUFFER, first, 0, 0).descriptor(1, BUFFER, 1, 0, 0).offer(0).offer(1);
            d.m.run(2);
            CHECK.due("printed", d.m.printed(-1), first + 1);
            CHECK.due("the last", d.m.printed(first), 100);
            d.offer(0);
            d.m.serve();
            CHECK.due("printed", d.m.printed(-1), 120);
            CHECK.due("the first", d.m.printed(0), 100);
        }
    }

    private static void receiveOnlyWhileInputWaits() {
        CHECK.sentence("RECEIVE: only while input waits");
        Driver d = withInput(0).descriptor(0, BUFFER, 4, WRITE, 0).offer(0);
        d.m.run(10);
        CHECK.due("without input", d.usedIndex(), 0);
        CHECK.due("interrupts", d.interrupts(), 0);
        d.m.key(65);
        CHECK.due("key alone does nothing", d.usedIndex(), 0);
        d.m.serve();
        CHECK.due("with input", d.usedIndex(), 1);
        CHECK.due("filled", d.m.peek(BUFFER), 65);
    }

    private static void badReceiveOnlyWhileInputWaits() {
        CHECK.sentence("RECEIVE: only while input waits");
        Driver d = withInput(0).offer(99);
        d.m.run(10);
        CHECK.due("status without input", d.status(), 15);
        d.m.key(65);
        d.m.serve();
        CHECK.due("status with input", d.status(), 79);
    }

    private static void receiveAsFarAsThereIsInput() {
        CHECK.sentence("what can be written is filled, as far as there is input");
        for (int count : new int[] {1, 2, 15, 16}) {
            Driver d = withInput(count).descriptor(0, BUFFER, count + 1, WRITE, 0).offer(0);
            d.m.poke(BUFFER + count & -4, -1);
            d.m.serve();
            CHECK.due("length", d.usedLength(0), count);
            CHECK.due("the last", Driver.octet(d.m, BUFFER + count - 1), 96 + count);
            CHECK.due("behind it", Driver.octet(d.m, BUFFER + count), 255);
            CHECK.due("none waits then", d.m.key(1), 1);
        }
    }

    private static void receiveAsFarAsThereIsRoom() {
        CHECK.sentence("what can be written is filled");
        for (int room : new int[] {1, 2, 15}) {
            Driver d = withInput(16).descriptor(0, BUFFER, room, WRITE, 0).offer(0);
            d.m.serve();
            CHECK.due("length", d.usedLength(0), room);
            CHECK.due("the last", Driver.octet(d.m, BUFFER + room - 1), 96 + room);
            CHECK.due("behind it", Driver.octet(d.m, BUFFER + room), 0);
            CHECK.due("the others wait", d.m.key(1), 17 - room);
        }
    }

    private static void receiveExactly() {
        CHECK.sentence("what can be written is filled, as far as there is input");
        Driver d = withInput(16).descriptor(0, BUFFER, 16, WRITE, 0).offer(0).offer(0);
        d.m.run(3);
        CHECK.due("length", d.usedLength(0), 16);
        CHECK.due("the next chain waits for input", d.usedIndex(), 1);
    }

    private static void receiveOverEmptyBuffers() {
        CHECK.sentence("what can be written is filled");
        Driver d = withInput(3).descriptor(0, 4096, 0, WRITE | NEXT, 1).descriptor(1, BUFFER, 1, WRITE | NEXT, 2)
            .descriptor(2, 0, 0, WRITE | NEXT, 3).descriptor(3, BUFFER + 5, 2, WRITE, 0).offer(0);
        d.m.serve();
        CHECK.due("length", d.usedLength(0), 3);
        CHECK.due("filled", d.m.peek(BUFFER), 97);
        CHECK.due("filled", d.m.peek(BUFFER + 4), 98 << 8 | 99 << 16);
    }

    private static void receiveLeavesWhatCanBeRead() {
        CHECK.sentence("RECEIVE: only while input waits: what can be written is filled");
        Driver d = withInput(2).descriptor(0, BUFFER, 8, NEXT, 1).descriptor(1, BUFFER + 8, 8, WRITE, 0).offer(0);
        d.m.serve();
        CHECK.due("what can be read", d.m.peek(BUFFER), 0);
        CHECK.due("what can be written", d.m.peek(BUFFER + 8), 97 | 98 << 8);
        CHECK.due("output", d.m.printed(-1), 0);
    }

    private static void receiveWithNothingToWrite() {
        CHECK.sentence("bad, if nothing can be");
        Driver[] bad = {withInput(1).descriptor(0, BUFFER, 4, 0, 0).offer(0),
            withInput(1).descriptor(0, BUFFER, 0, WRITE, 0).offer(0),
            withInput(1).descriptor(0, BUFFER, 0, 0, 0).offer(0),
            withInput(1).descriptor(0, BUFFER, 4, NEXT, 1).descriptor(1, 4096, 0, WRITE, 0).offer(0)};
        for (Driver d : bad) {
            d.m.serve();
            CHECK.due("status", d.status(), 79);
            CHECK.due("interrupts", d.interrupts(), 2);
            CHECK.due("used index", d.usedIndex(), 0);
            CHECK.due("the input still waits", d.m.key(1), 2);
        }
    }

    private static void receiveLength() {
        CHECK.sentence("length: so many");
        Driver d = withInput(9).descriptor(0, BUFFER, 5, WRITE, 0).offer(0).offer(0);
        d.m.run(2);
        CHECK.due("the first", d.usedLength(0), 5);
        CHECK.due("the second", d.usedLength(1), 4);
    }

    private static void transmitAsFarAsThereIsRoom() {
        CHECK.sentence("TRANSMIT: what can be read comes to the output as far as there is room");
        Driver d = withLetters().descriptor(0, BUFFER, 100, NEXT, 1).descriptor(1, BUFFER + 3, 30, 0, 0).offer(0);
        d.m.serve();
        CHECK.due("printed", d.m.printed(-1), 120);
        CHECK.due("character 99", d.m.printed(99), 199);
        CHECK.due("character 100", d.m.printed(100), 103);
        CHECK.due("character 119", d.m.printed(119), 122);
    }

    private static void transmitOfNothing() {
        CHECK.sentence("TRANSMIT: what can be read comes to the output");
        Driver d = withLetters().descriptor(0, BUFFER, 0, 0, 0).offer(0);
        d.m.serve();
        CHECK.due("an empty one is done", d.usedIndex(), 1);
        CHECK.due("printed", d.m.printed(-1), 0);
        CHECK.due("status", d.status(), 15);
    }

    private static void transmitLeavesWhatCanBeWritten() {
        CHECK.sentence("TRANSMIT: what can be read comes to the output");
        Driver d = withLetters().descriptor(0, BUFFER, 2, NEXT, 1).descriptor(1, BUFFER + 8, 8, WRITE, 0).offer(0);
        d.m.key(1);
        int before = d.m.peek(BUFFER + 8);
        d.m.serve();
        CHECK.due("printed", d.m.printed(-1), 2);
        CHECK.due("what can be written", d.m.peek(BUFFER + 8), before);
        CHECK.due("the input still waits", d.m.key(1), 2);
    }

    private static void transmitLength() {
        CHECK.sentence("as far as there is room; length 0");
        Driver d = withLetters().descriptor(0, BUFFER, 9, 0, 0).offer(0);
        d.m.poke(d.used + 8, -1);
        d.m.serve();
        CHECK.due("length", d.usedLength(0), 0);
    }

    private static Driver transmitBeside(Driver receive) {
        return new Driver(receive.m, Driver.CONSOLE, 1, 8).descriptor(0, BUFFER + 64, 1, 0, 0).offer(0);
    }

    private static void receiveAheadOfTransmit() {
        CHECK.sentence("of RECEIVE if that has one and input waits, else of TRANSMIT");
        Driver in = withInput(2).descriptor(0, BUFFER, 1, WRITE, 0).offer(0).offer(0);
        Driver out = transmitBeside(in);
        int[][] used = {{1, 0}, {2, 0}, {2, 1}};
        for (int[] u : used) {
            in.m.serve();
            CHECK.due("received", in.usedIndex(), u[0]);
            CHECK.due("transmitted", out.usedIndex(), u[1]);
        }
    }

    private static void transmitWithoutInput() {
        CHECK.sentence("if that has one and input waits, else of TRANSMIT");
        Driver in = withInput(0).descriptor(0, BUFFER, 1, WRITE, 0).offer(0);
        Driver out = transmitBeside(in);
        in.m.serve();
        CHECK.due("received", in.usedIndex(), 0);
        CHECK.due("transmitted", out.usedIndex(), 1);
    }

    private static void transmitWithoutAReceiveChain() {
        CHECK.sentence("if that has one and input waits, else of TRANSMIT");
        Driver in = withInput(3);
        Driver out = transmitBeside(in);
        in.m.serve();
        CHECK.due("transmitted", out.usedIndex(), 1);
        CHECK.due("the input still waits", in.m.key(1), 4);
    }

    private static void transmitWithReceiveNotReady() {
        CHECK.sentence("if that has one and input waits, else of TRANSMIT");
        Driver in = withInput(3).descriptor(0, BUFFER, 1, WRITE, 0).offer(0);
        in.m.out(Driver.CONSOLE + 68, 0);
        Driver out = transmitBeside(in);
        in.m.serve();
        CHECK.due("received", in.usedIndex(), 0);
        CHECK.due("transmitted", out.usedIndex(), 1);
    }

    private static void noTransmitBehindABadReceive() {
        CHECK.sentence("then the console one: of RECEIVE if that has one and input waits");
        Driver in = withInput(1).offer(99);
        Driver out = transmitBeside(in);
        in.m.serve();
        CHECK.due("status", in.status(), 79);
        CHECK.due("transmitted", out.usedIndex(), 0);
        CHECK.due("printed", in.m.printed(-1), 0);
    }

    private static void noReceiveBehindABadTransmit() {
        CHECK.sentence("The device is LIVE while its status has 1, 2, 4 and 8, and neither 64 nor 128");
        Driver in = withInput(0).descriptor(0, BUFFER, 1, WRITE, 0).offer(0);
        Driver out = new Driver(in.m, Driver.CONSOLE, 1, 8).offer(99);
        in.m.serve();
        CHECK.due("status", out.status(), 79);
        in.m.key(1);
        in.m.serve();
        CHECK.due("received", in.usedIndex(), 0);
    }

    private static void oneChainInAStep() {
        CHECK.sentence("the disk does one chain if one waits, then the console one");
        Driver d = withLetters().descriptor(0, BUFFER, 1, 0, 0).offer(0).offer(0).offer(0);
        for (int k = 1; k <= 4; k++) {
            d.m.serve();
            CHECK.due("printed", d.m.printed(-1), k < 3 ? k : 3);
        }
        VirtioMachine m = new VirtioMachine();
        m.poke(BUFFER, 4);
        Driver disk = Driver.disk(m).descriptor(0, BUFFER, 16, NEXT, 1).descriptor(1, BUFFER + 32, 1, WRITE, 0);
        disk.offer(0).offer(0).offer(0);
        for (int k = 1; k <= 4; k++) {
            m.run(1);
            CHECK.due("the disk's chains", disk.usedIndex(), k < 3 ? k : 3);
        }
    }

    private static void bothDevicesInAStep() {
        CHECK.sentence("A STEP of the computer: one of the core, then the disk does one chain if one waits, "
            + "then the console one");
        VirtioMachine m = new VirtioMachine();
        m.poke(BUFFER, 4);
        Driver disk = Driver.disk(m).descriptor(0, BUFFER, 16, NEXT, 1).descriptor(1, BUFFER + 32, 1, WRITE, 0).offer(0);
        Driver console = Driver.transmit(m).descriptor(0, BUFFER, 1, 0, 0).offer(0);
        Asm.put(m, 0, Asm.addi(1, 1, 1));
        CHECK.due("run", m.run(1), 1);
        CHECK.due("the core's instruction", m.register(1), 1);
        CHECK.due("the disk's chain", disk.usedIndex(), 1);
        CHECK.due("the console's chain", console.usedIndex(), 1);
    }

    private static void devicesWhileTheCoreWaits() {
        CHECK.sentence("A STEP of the computer");
        Driver d = withLetters().descriptor(0, BUFFER, 1, 0, 0);
        d.m.poke(0, Asm.WFI);
        d.m.run(1);
        d.offer(0).offer(0);
        CHECK.due("the core waits", d.m.run(1), 0);
        CHECK.due("the console works", d.m.printed(-1), 1);
        d.m.jump(4096);
        CHECK.due("the core traps", d.m.run(1), 0);
        CHECK.due("the console works", d.m.printed(-1), 2);
    }

    private static void interruptInTheNextStep() {
        CHECK.sentence("A STEP of the computer: one of the core, then the disk");
        Driver d = withLetters().descriptor(0, BUFFER, 1, 0, 0);
        d.m.out(4104, 1);
        d.m.out(4116, 4);
        Asm.setCsr(d.m, 773, 256);
        Asm.setCsr(d.m, 772, 0x800);
        Asm.setCsr(d.m, 768, 8);
        Asm.put(d.m, 0, Asm.WFI, Asm.NOP);
        d.m.jump(0);
        d.m.run(1);
        d.offer(0);
        CHECK.due("the chain is done", d.m.run(1), 0);
        CHECK.due("the core still waits", d.m.waits(), true);
        d.m.run(1);
        CHECK.due("the next step", d.m.csr(834), -2147483637);
        CHECK.due("MEPC", d.m.csr(833), 4);
        CHECK.due("PC", d.m.register(32), 256);
    }
}
