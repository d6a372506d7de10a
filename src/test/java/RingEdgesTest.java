/** "Terms", the rings: each sentence that names an edge has a test of its own. */
public final class RingEdgesTest {
    private static final Check CHECK = new Check();
    private static final int NEXT = Driver.NEXT;
    private static final int WRITE = Driver.WRITE;
    private static final int INDIRECT = Driver.INDIRECT;
    private static final int TABLE = 2560;
    private static final int LETTERS = 3072;

    public static void main(String[] args) {
        namesOfFlags();
        notReady();
        indexIsSeen();
        indexFarAhead();
        indexBehindSeen();
        indicesAreModulo65536();
        headOfSeenModuloTheSize();
        headNotBelowTheSize();
        nextNotBelowTheSize();
        nextWithoutItsFlag();
        moreDescriptorsThanTheSize();
        secondWord();
        lengthBelowZero();
        bufferNotAllInRam();
        emptyBuffer();
        readBehindWrite();
        emptyReadBehindWrite();
        readInATableBehindWrite();
        readBehindWriteInATable();
        foundBeforeAnythingIsDone();
        foundBeforeTheyAreWritten();
        tableBeginsWithNumberZero();
        indirectNotAccepted();
        indirectWithNext();
        lengthOfATable();
        emptyTable();
        tableNotAllInRam();
        tableNotAtAMultipleOf16();
        secondWordOfATable();
        indirectInATable();
        numbersInATable();
        descriptorsInATable();
        eachCountByThemselves();
        tableBehindTooMany();
        writeOfIndirect();
        badChain();
        badChainDespiteNoInterrupt();
        badOfADevice();
        seenGrows();
        elementOfDoneModuloTheSize();
        headAsItWasRead();
        usedFlagsStay();
        interruptOfAChain();
        noInterrupt();
        headFirstThenIndexThenFlags();
        usedRingOverTheBuffer();
        diskAheadOfConsole();
        consoleBehindDisk();
        coreAheadOfDevices();
        CHECK.end();
    }

    private static Driver transmit(int size, boolean indirect) {
        VirtioMachine m = new VirtioMachine();
        for (int k = 0; k < 32; k += 4) {
            Driver.setOctets(m, LETTERS + k, 64 + k, 65 + k, 66 + k, 67 + k);
        }
        Driver.wake(m, Driver.CONSOLE, indirect);
        return new Driver(m, Driver.CONSOLE, 1, size);
    }

    private static Driver transmit() {
        return transmit(4, true);
    }

    private static Driver withTable(int address, int length) {
        return transmit().descriptor(0, address, length, INDIRECT, 0).offer(0);
    }

    private static Driver inTable(Driver d, int number, int address, int length, int flags, int next) {
        Driver.descriptorAt(d.m, TABLE + 16 * number, address, length, flags, next);
        return d;
    }

    private static void prints(String what, Driver d, String text) {
        d.m.serve();
        CHECK.due(what + ": status", d.status(), 15);
        CHECK.due(what + ": interrupts", d.interrupts(), 1);
        CHECK.due(what + ": used", d.usedIndex(), 1);
        CHECK.due(what + ": length", d.usedLength(0), 0);
        CHECK.due(what + ": printed", d.m.printed(-1), text.length());
        for (int k = 0; k < text.length() && k < d.m.printed(-1); k++) {
            CHECK.due(what + ": character " + k, d.m.printed(k), text.charAt(k));
        }
    }

    private static void isBad(String what, Driver d) {
        d.m.serve();
        CHECK.due(what + ": status", d.status(), 79);
        CHECK.due(what + ": interrupts", d.interrupts(), 2);
        CHECK.due(what + ": used", d.usedIndex(), 0);
        CHECK.due(what + ": printed", d.m.printed(-1), 0);
    }

    private static void namesOfFlags() {
        CHECK.sentence("FLAGS (a half word: 1 NEXT, 2 WRITE, 4 INDIRECT)");
        prints("no flag, with a number behind it", transmit().descriptor(0, LETTERS + 1, 1, 0, 1).offer(0), "A");
        prints("flags that have no name", transmit().descriptor(0, LETTERS + 1, 1, 0xFFF8, 1).offer(0), "A");
        prints("WRITE is not read", transmit().descriptor(0, LETTERS + 1, 1, WRITE, 0).offer(0), "");
        prints("NEXT", transmit().descriptor(0, LETTERS + 1, 1, NEXT, 1).descriptor(1, LETTERS + 2, 1, 0, 0).offer(0),
            "AB");
    }

    private static void notReady() {
        CHECK.sentence("A live device with a ready queue");
        Driver d = transmit().descriptor(0, LETTERS + 1, 1, 0, 0).offer(0);
        d.m.out(Driver.CONSOLE + 68, 0);
        d.m.run(3);
        CHECK.due("chains done, with READY 0", d.usedIndex(), 0);
        Driver bad = transmit().offer(99);
        bad.m.out(Driver.CONSOLE + 68, 0);
        bad.m.run(3);
        CHECK.due("status, with READY 0", bad.status(), 15);
    }

    private static void indexIsSeen() {
        CHECK.sentence("whose available index is not SEEN");
        Driver d = transmit().descriptor(0, LETTERS + 1, 1, 0, 0);
        d.m.serve();
        CHECK.due("index 0, SEEN 0", d.usedIndex(), 0);
        d.offer(0);
        d.m.run(5);
        CHECK.due("index 1, SEEN 1", d.usedIndex(), 1);
        CHECK.due("printed", d.m.printed(-1), 1);
    }

    private static void indexFarAhead() {
        CHECK.sentence("(however far it is)");
        for (int index : new int[] {2, 5, 9, 255, 256, 32767, 32768, 65535}) {
            Driver d = transmit().descriptor(0, LETTERS + 1, 1, 0, 0);
            Driver.setHalf(d.m, d.available + 2, index);
            d.m.run(2);
            CHECK.due("chains done with index " + index, d.usedIndex(), 2);
            CHECK.due("status", d.status(), 15);
        }
    }

    private static void indexBehindSeen() {
        CHECK.sentence("(however far it is)");
        Driver d = transmit().descriptor(0, LETTERS + 1, 1, 0, 0).offer(0).offer(0);
        d.m.run(2);
        CHECK.due("chains done", d.usedIndex(), 2);
        Driver.setHalf(d.m, d.available + 2, 1);
        d.m.run(3);
        CHECK.due("chains done, with the index behind SEEN", d.usedIndex(), 5);
    }

    /** In 512 calls a queue can see 51,200 chains at most, so that a count never comes to 65536 itself. */
    private static void indicesAreModulo65536() {
        CHECK.sentence("Indices are modulo 65536");
        Driver d = transmit().descriptor(0, LETTERS, 0, 0, 0);
        Driver.setHalf(d.m, d.available + 2, 32770);
        for (int k = 0; k < 330; k++) {
            d.m.run(100);
        }
        CHECK.due("used index", d.usedIndex(), 32770);
        d.m.out(Driver.CONSOLE + 100, 1);
        d.m.run(1);
        CHECK.due("the index is SEEN", d.interrupts(), 0);
        CHECK.due("used flags", Driver.half(d.m, d.used), 0);
        Driver.setHalf(d.m, d.available + 2, 0);
        d.m.run(1);
        CHECK.due("the index has gone round", d.usedIndex(), 32771);
    }

    private static void headOfSeenModuloTheSize() {
        CHECK.sentence("it begins with the descriptor that half word SEEN modulo the size says");
        for (int size : new int[] {2, 4, 8}) {
            Driver d = transmit(size, true);
            for (int k = 0; k < size; k++) {
                d.descriptor(k, LETTERS + 1 + k, 1, 0, 0);
                Driver.setHalf(d.m, d.available + 4 + 2 * k, size - 1 - k);
            }
            Driver.setHalf(d.m, d.available + 2, 2 * size + 1);
            d.m.run(2 * size + 1);
            CHECK.due("printed", d.m.printed(-1), 2 * size + 1);
            for (int k = 0; k <= 2 * size; k++) {
                CHECK.due("chain " + k, d.m.printed(k), 'A' + size - 1 - k % size);
            }
        }
    }

    private static void headNotBelowTheSize() {
        CHECK.sentence("It is BAD if a number is not below the size");
        for (int size : new int[] {2, 4, 8}) {
            Driver last = transmit(size, true).descriptor(size - 1, LETTERS + 1, 1, 0, 0).offer(size - 1);
            prints("head " + (size - 1), last, "A");
            for (int head : new int[] {size, size + 1, 256, 32768, 65535}) {
                isBad("head " + head, transmit(size, true).offer(head));
            }
        }
    }

    private static void nextNotBelowTheSize() {
        CHECK.sentence("It is BAD if a number is not below the size");
        for (int size : new int[] {2, 4, 8}) {
            Driver last = transmit(size, true).descriptor(0, LETTERS + 1, 1, NEXT, size - 1)
                .descriptor(size - 1, LETTERS + 2, 1, 0, 0).offer(0);
            prints("next " + (size - 1), last, "AB");
            for (int next : new int[] {size, size + 1, 256, 32768, 65535}) {
                isBad("next " + next, transmit(size, true).descriptor(0, LETTERS + 1, 1, NEXT, next).offer(0));
            }
        }
    }

    private static void nextWithoutItsFlag() {
        CHECK.sentence("the number of the next one (a half word)");
        prints("a number without NEXT is of no meaning", transmit().descriptor(0, LETTERS + 1, 1, 0, 65535).offer(0),
            "A");
    }

    private static void moreDescriptorsThanTheSize() {
        CHECK.sentence("it has more descriptors than the size");
        for (int size : new int[] {2, 4, 8}) {
            Driver all = transmit(size, true);
            Driver round = transmit(size, true);
            for (int k = 0; k < size; k++) {
                all.descriptor(k, LETTERS + 1 + k, 1, k < size - 1 ? NEXT : 0, k + 1);
                round.descriptor(k, LETTERS + 1 + k, 1, NEXT, (k + 1) % size);
            }
            prints("as many as the size", all.offer(0), "ABCDEFGH".substring(0, size));
            isBad("round and round", round.offer(0));
            isBad("one that names itself", transmit(size, true).descriptor(1, LETTERS, 0, NEXT, 1).offer(1));
        }
    }

    private static void secondWord() {
        CHECK.sentence("a descriptor's second word is not 0");
        for (int word : new int[] {1, 65536, -1, Integer.MIN_VALUE}) {
            for (int length : new int[] {0, 1}) {
                Driver first = transmit().descriptor(0, LETTERS, length, 0, 0).offer(0);
                first.m.poke(first.table + 4, word);
                isBad("of the first", first);
                Driver second = transmit().descriptor(0, LETTERS, 1, NEXT, 1).descriptor(1, LETTERS, length, 0, 0)
                    .offer(0);
                second.m.poke(second.table + 20, word);
                isBad("of the second", second);
                Driver inside = inTable(withTable(TABLE, 16), 0, LETTERS, length, 0, 0);
                inside.m.poke(TABLE + 4, word);
                isBad("in a table", inside);
            }
        }
    }

    private static void lengthBelowZero() {
        CHECK.sentence("its length is below 0");
        for (int length : new int[] {-1, -16, -4096, Integer.MIN_VALUE}) {
            for (int flags : new int[] {0, WRITE}) {
                isBad("length " + length, transmit().descriptor(0, LETTERS, length, flags, 0).offer(0));
                isBad("in a table", inTable(withTable(TABLE, 16), 0, LETTERS, length, flags, 0));
            }
        }
    }

    private static void bufferNotAllInRam() {
        CHECK.sentence("its buffer is not all in RAM");
        Driver last = transmit().descriptor(0, 4095, 1, 0, 0).offer(0);
        last.m.poke(4092, 'Z' << 24);
        prints("the last byte", last, "Z");
        Driver whole = transmit().descriptor(0, 0, 4096, WRITE, 0).offer(0);
        prints("all of RAM", whole, "");
        int[][] outside = {{0, 4097}, {1, 4096}, {4095, 2}, {4096, 1}, {-1, 1}, {-1, 2}, {-4, 8}, {8192, 1},
            {0x7FFFFFFF, 1}, {0x7FFFFFFF, 0x7FFFFFFF}, {4095, 0x7FFFFFFF}, {Integer.MIN_VALUE, 1}, {1, 0x7FFFFFFF}};
        for (int[] b : outside) {
            for (int flags : new int[] {0, WRITE}) {
                isBad(b[1] + " bytes at " + b[0], transmit().descriptor(0, b[0], b[1], flags, 0).offer(0));
                isBad("the second", transmit().descriptor(0, LETTERS, 1, NEXT, 1).descriptor(1, b[0], b[1], flags, 0)
                    .offer(0));
                isBad("in a table", inTable(withTable(TABLE, 16), 0, b[0], b[1], flags, 0));
            }
        }
    }

    private static void emptyBuffer() {
        CHECK.sentence("(an empty one: its address is 0 .. 4096)");
        for (int flags : new int[] {0, WRITE}) {
            for (int address : new int[] {0, 1, 4095, 4096}) {
                prints("at " + address, transmit().descriptor(0, address, 0, flags, 0).offer(0), "");
                prints("in a table", inTable(withTable(TABLE, 16), 0, address, 0, flags, 0), "");
            }
            for (int address : new int[] {-1, 4097, 8192, 12288, 0x7FFFFFFF, Integer.MIN_VALUE}) {
                isBad("at " + address, transmit().descriptor(0, address, 0, flags, 0).offer(0));
                isBad("in a table", inTable(withTable(TABLE, 16), 0, address, 0, flags, 0));
            }
        }
        prints("between others", transmit().descriptor(0, LETTERS + 1, 1, NEXT, 1).descriptor(1, 4096, 0, NEXT, 2)
            .descriptor(2, LETTERS + 2, 1, 0, 0).offer(0), "AB");
    }

    private static void readBehindWrite() {
        CHECK.sentence("one that can be read comes behind one to WRITE");
        prints("WRITE behind one to read", transmit().descriptor(0, LETTERS + 1, 1, NEXT, 1)
            .descriptor(1, LETTERS, 1, WRITE | NEXT, 2).descriptor(2, LETTERS, 1, WRITE, 0).offer(0), "A");
        isBad("read behind WRITE", transmit().descriptor(0, LETTERS, 1, WRITE | NEXT, 1)
            .descriptor(1, LETTERS + 1, 1, 0, 0).offer(0));
        isBad("not right behind it", transmit().descriptor(0, LETTERS, 1, NEXT, 1)
            .descriptor(1, LETTERS, 1, WRITE | NEXT, 2).descriptor(2, LETTERS, 1, WRITE | NEXT, 3)
            .descriptor(3, LETTERS, 1, 0, 0).offer(0));
    }

    private static void emptyReadBehindWrite() {
        CHECK.sentence("one that can be read comes behind one to WRITE");
        isBad("an empty one behind WRITE", transmit().descriptor(0, LETTERS, 1, WRITE | NEXT, 1)
            .descriptor(1, LETTERS, 0, 0, 0).offer(0));
        isBad("one behind an empty one to WRITE", transmit().descriptor(0, LETTERS, 0, WRITE | NEXT, 1)
            .descriptor(1, LETTERS, 1, 0, 0).offer(0));
    }

    private static void readInATableBehindWrite() {
        CHECK.sentence("(also in a table, behind one ahead of it)");
        Driver d = transmit().descriptor(0, LETTERS, 1, WRITE | NEXT, 1).descriptor(1, TABLE, 16, INDIRECT, 0);
        isBad("read in the table", inTable(d, 0, LETTERS, 1, 0, 0).offer(0));
        Driver e = transmit().descriptor(0, LETTERS, 1, WRITE | NEXT, 1).descriptor(1, TABLE, 16, INDIRECT, 0);
        prints("WRITE in the table", inTable(e, 0, LETTERS, 1, WRITE, 0).offer(0), "");
        Driver f = transmit().descriptor(0, LETTERS + 1, 1, NEXT, 1).descriptor(1, TABLE, 16, INDIRECT, 0);
        prints("read behind read", inTable(f, 0, LETTERS + 2, 1, 0, 0).offer(0), "AB");
    }

    private static void readBehindWriteInATable() {
        CHECK.sentence("one that can be read comes behind one to WRITE (also in a table");
        Driver d = withTable(TABLE, 32);
        inTable(d, 0, LETTERS, 1, WRITE | NEXT, 1);
        isBad("both in the table", inTable(d, 1, LETTERS, 1, 0, 0));
        Driver e = withTable(TABLE, 32);
        inTable(e, 0, LETTERS + 1, 1, NEXT, 1);
        prints("WRITE behind one to read", inTable(e, 1, LETTERS, 1, WRITE, 0), "A");
    }

    private static void foundBeforeAnythingIsDone() {
        CHECK.sentence("(all are found before anything is done with one)");
        isBad("the last is bad", transmit().descriptor(0, LETTERS + 1, 9, NEXT, 1).descriptor(1, LETTERS, 9, NEXT, 2)
            .descriptor(2, 4097, 0, 0, 0).offer(0));
        VirtioMachine m = new VirtioMachine();
        m.key(9);
        Driver d = Driver.receive(m).descriptor(0, LETTERS, 1, WRITE | NEXT, 1).descriptor(1, LETTERS, -1, WRITE, 0);
        d.offer(0);
        m.serve();
        CHECK.due("status", d.status(), 79);
        CHECK.due("nothing is filled", m.peek(LETTERS), 0);
        CHECK.due("the input still waits", m.key(9), 2);
    }

    private static void foundBeforeTheyAreWritten() {
        CHECK.sentence("(all are found before anything is done with one)");
        VirtioMachine m = new VirtioMachine();
        for (int k = 0; k < 16; k++) {
            m.key(201 + k);
        }
        Driver d = Driver.receive(m);
        d.descriptor(0, d.table + 16, 15, WRITE | NEXT, 1).descriptor(1, LETTERS, 4, WRITE, 0).offer(0);
        m.serve();
        CHECK.due("status", d.status(), 15);
        CHECK.due("the second descriptor is written over", m.peek(d.table + 16), 201 | 202 << 8 | 203 << 16 | 204 << 24);
        CHECK.due("its buffer is where it was found", m.peek(LETTERS), 216);
        CHECK.due("length", d.usedLength(0), 16);
    }

    private static void tableBeginsWithNumberZero() {
        CHECK.sentence("which begin with number 0");
        Driver d = transmit().descriptor(2, TABLE, 48, INDIRECT, 2).offer(2);
        inTable(d, 0, LETTERS + 1, 1, NEXT, 2);
        inTable(d, 1, LETTERS + 9, 1, 0, 0);
        prints("0, then 2", inTable(d, 2, LETTERS + 3, 1, 0, 0), "AC");
        CHECK.due("its head", d.usedHead(0), 2);
    }

    private static void indirectNotAccepted() {
        CHECK.sentence("BAD if INDIRECT was not accepted");
        for (boolean accepted : new boolean[] {false, true}) {
            Driver d = transmit(4, accepted).descriptor(0, TABLE, 16, INDIRECT, 0).offer(0);
            inTable(d, 0, LETTERS + 1, 1, 0, 0);
            if (accepted) {
                prints("accepted", d, "A");
            } else {
                isBad("not accepted", d);
            }
        }
    }

    private static void indirectWithNext() {
        CHECK.sentence("it has NEXT as well");
        Driver d = transmit().descriptor(0, TABLE, 16, INDIRECT | NEXT, 1).descriptor(1, LETTERS, 1, 0, 0).offer(0);
        isBad("INDIRECT and NEXT", inTable(d, 0, LETTERS + 1, 1, 0, 0));
        Driver e = transmit().descriptor(0, TABLE, 16, INDIRECT | 0xFFF8, 1).offer(0);
        prints("INDIRECT and flags that have no name", inTable(e, 0, LETTERS + 1, 1, 0, 0), "A");
    }

    private static void lengthOfATable() {
        CHECK.sentence("its length is no multiple of 16 or 0");
        for (int length : new int[] {1, 8, 15, 17, 24, 31, 33, -1, -16, Integer.MIN_VALUE, 0x7FFFFFFF}) {
            isBad("length " + length, inTable(withTable(TABLE, length), 0, LETTERS + 1, 1, 0, 0));
        }
        for (int length : new int[] {16, 32, 48, 256}) {
            prints("length " + length, inTable(withTable(TABLE, length), 0, LETTERS + 1, 1, 0, 0), "A");
        }
    }

    private static void emptyTable() {
        CHECK.sentence("its length is no multiple of 16 or 0");
        isBad("length 0", inTable(withTable(TABLE, 0), 0, LETTERS + 1, 1, 0, 0));
        isBad("length 0 at the end", withTable(4096, 0));
    }

    private static void tableNotAllInRam() {
        CHECK.sentence("the table is not all in RAM");
        Driver last = withTable(4080, 16);
        Driver.descriptorAt(last.m, 4080, LETTERS + 1, 1, 0, 0);
        prints("at the end of RAM", last, "A");
        int[][] outside = {{4080, 32}, {4096, 16}, {0, 4112}, {-16, 16}, {-16, 32}, {8192, 16}, {0x7FFFFFF0, 16},
            {0x7FFFFFF0, 0x7FFFFFF0}, {Integer.MIN_VALUE, 16}};
        for (int[] t : outside) {
            isBad(t[1] + " bytes at " + t[0], withTable(t[0], t[1]));
        }
        Driver all = withTable(0, 4096);
        Driver.descriptorAt(all.m, 0, LETTERS + 1, 1, 0, 0);
        prints("all of RAM", all, "A");
    }

    private static void tableNotAtAMultipleOf16() {
        CHECK.sentence("(or not at a multiple of 16)");
        for (int shift = 0; shift < 16; shift += 4) {
            Driver d = withTable(TABLE + shift, 16);
            Driver.descriptorAt(d.m, TABLE + shift, LETTERS + 1, 1, 0, 0);
            if (shift == 0) {
                prints("at a multiple", d, "A");
            } else {
                isBad("at " + shift + " behind one", d);
            }
        }
        isBad("at an odd address", withTable(TABLE + 1, 16));
    }

    private static void secondWordOfATable() {
        CHECK.sentence("a descriptor's second word is not 0");
        for (int word : new int[] {1, -1}) {
            Driver d = inTable(withTable(TABLE, 16), 0, LETTERS + 1, 1, 0, 0);
            d.m.poke(d.table + 4, word);
            isBad("of one with INDIRECT", d);
        }
    }

    private static void indirectInATable() {
        CHECK.sentence("a descriptor in it has INDIRECT");
        Driver first = inTable(withTable(TABLE, 16), 0, TABLE + 64, 16, INDIRECT, 0);
        isBad("the first in it", inTable(first, 4, LETTERS + 1, 1, 0, 0));
        Driver second = inTable(withTable(TABLE, 32), 0, LETTERS + 1, 1, NEXT, 1);
        isBad("the second in it", inTable(second, 1, TABLE + 64, 16, INDIRECT, 0));
    }

    private static void numbersInATable() {
        CHECK.sentence("there the numbers have to be below those in the table");
        for (int count : new int[] {1, 2, 3, 7}) {
            for (int next : new int[] {count, count + 1, 256, 65535}) {
                isBad("number " + next + " of " + count, inTable(withTable(TABLE, 16 * count), 0, LETTERS, 1, NEXT, next));
            }
        }
        Driver d = transmit(2, true).descriptor(0, TABLE, 16 * 7, INDIRECT, 0).offer(0);
        inTable(d, 0, LETTERS + 1, 1, NEXT, 6);
        prints("a number that is not below the queue's size", inTable(d, 6, LETTERS + 2, 1, 0, 0), "AB");
    }

    private static void descriptorsInATable() {
        CHECK.sentence("it may have no more descriptors than that");
        for (int count : new int[] {1, 2, 3, 9}) {
            Driver all = withTable(TABLE, 16 * count);
            Driver round = withTable(TABLE, 16 * count);
            for (int k = 0; k < count; k++) {
                inTable(all, k, LETTERS + 1 + k, 1, k < count - 1 ? NEXT : 0, k + 1);
                inTable(round, k, LETTERS + 1 + k, 1, NEXT, (k + 1) % count);
            }
            prints("as many as the table has", all, "ABCDEFGHI".substring(0, count));
            isBad("round and round", round);
        }
    }

    private static void eachCountByThemselves() {
        CHECK.sentence("The first descriptors and those in the table count each by themselves");
        for (int size : new int[] {2, 4}) {
            Driver d = transmit(size, true);
            for (int k = 0; k < size - 1; k++) {
                d.descriptor(k, LETTERS + 1 + k, 1, NEXT, k + 1);
            }
            d.descriptor(size - 1, TABLE, 16 * 9, INDIRECT, 0).offer(0);
            for (int k = 0; k < 9; k++) {
                inTable(d, k, LETTERS + size + k, 1, k < 8 ? NEXT : 0, k + 1);
            }
            prints("as many as can be, in both", d, "ABCDEFGHIJKL".substring(0, size + 8));
        }
    }

    private static void tableBehindTooMany() {
        CHECK.sentence("it has more descriptors than the size");
        Driver d = transmit(2, true).descriptor(0, LETTERS, 1, NEXT, 1).descriptor(1, LETTERS, 1, NEXT, 2)
            .descriptor(2, TABLE, 16, INDIRECT, 0).offer(0);
        isBad("INDIRECT behind as many as the size", inTable(d, 0, LETTERS + 1, 1, 0, 0));
    }

    private static void writeOfIndirect() {
        CHECK.sentence("what WRITE says of a descriptor with INDIRECT is of no meaning");
        for (int flags : new int[] {INDIRECT, INDIRECT | WRITE}) {
            Driver d = transmit().descriptor(0, TABLE, 16, flags, 0).offer(0);
            prints("one to read in it", inTable(d, 0, LETTERS + 1, 1, 0, 0), "A");
            Driver e = transmit().descriptor(0, LETTERS, 1, WRITE | NEXT, 1).descriptor(1, TABLE, 16, flags, 0).offer(0);
            prints("behind one to WRITE", inTable(e, 0, LETTERS, 1, WRITE, 0), "");
            VirtioMachine m = new VirtioMachine();
            m.key(7);
            Driver f = Driver.receive(m).descriptor(0, TABLE, 16, flags, 0).offer(0);
            inTable(f, 0, LETTERS, 1, WRITE, 0);
            m.serve();
            CHECK.due("one to WRITE in it", m.peek(LETTERS), 7);
        }
    }

    private static int[] words(VirtioMachine m, int from, int count) {
        int[] words = new int[count];
        for (int k = 0; k < count; k++) {
            words[k] = m.peek(from + 4 * k);
        }
        return words;
    }

    private static void badChain() {
        CHECK.sentence("A bad chain, or one that a device calls bad: status 64, and INTERRUPT STATUS bit 1; nothing else");
        Driver d = transmit().descriptor(0, LETTERS + 1, 1, 0, 0).offer(0);
        d.m.serve();
        d.m.out(Driver.CONSOLE + 100, 1);
        d.offer(99);
        int[] rings = words(d.m, d.table, 64);
        d.m.run(3);
        CHECK.due("STATUS", d.status(), 79);
        CHECK.due("INTERRUPT STATUS", d.interrupts(), 2);
        CHECK.due("output", d.m.printed(-1), 1);
        for (int k = 0; k < rings.length; k++) {
            CHECK.due("word " + k + " of the rings", d.m.peek(d.table + 4 * k), rings[k]);
        }
        CHECK.due("the queue is still ready", d.m.in(Driver.CONSOLE + 68), 1);
        CHECK.due("the disk's status", d.m.in(Driver.DISK + 112), 0);
    }

    private static void badChainDespiteNoInterrupt() {
        CHECK.sentence("status 64, and INTERRUPT STATUS bit 1");
        Driver d = transmit().offer(99);
        Driver.setHalf(d.m, d.available, 1);
        d.m.serve();
        CHECK.due("INTERRUPT STATUS, with NO INTERRUPT", d.interrupts(), 2);
        CHECK.due("pending", d.m.in(4112), 4);
    }

    private static void badOfADevice() {
        CHECK.sentence("or one that a device calls bad: status 64, and INTERRUPT STATUS bit 1; nothing else");
        VirtioMachine m = new VirtioMachine();
        m.poke(LETTERS, -1);
        Driver d = Driver.disk(m).descriptor(0, LETTERS, 15, NEXT, 1).descriptor(1, LETTERS, 1, WRITE, 0).offer(0);
        m.serve();
        CHECK.due("STATUS", d.status(), 79);
        CHECK.due("INTERRUPT STATUS", d.interrupts(), 2);
        CHECK.due("used index", d.usedIndex(), 0);
        CHECK.due("the result", m.peek(LETTERS), -1);
    }

    private static void seenGrows() {
        CHECK.sentence("SEEN grows by 1");
        Driver d = transmit().descriptor(0, LETTERS + 1, 1, 0, 0).descriptor(1, LETTERS + 2, 1, 0, 0).offer(1).offer(0);
        d.m.serve();
        CHECK.due("printed", d.m.printed(-1), 1);
        CHECK.due("the first", d.m.printed(0), 'B');
        d.m.run(5);
        CHECK.due("printed", d.m.printed(-1), 2);
        CHECK.due("the second", d.m.printed(1), 'A');
    }

    private static void elementOfDoneModuloTheSize() {
        CHECK.sentence("the element DONE modulo the size gets its head and that length; DONE grows by 1, "
            + "and the used index becomes that");
        for (int size : new int[] {2, 4, 8}) {
            VirtioMachine m = new VirtioMachine();
            Driver.wake(m, Driver.CONSOLE, false);
            Driver d = new Driver(m, Driver.CONSOLE, 0, size);
            for (int k = 0; k < size; k++) {
                d.descriptor(k, LETTERS, k + 1, WRITE, 0);
            }
            for (int k = 0; k < 2 * size + 1; k++) {
                int head = (k + 1) % size;
                for (int c = 0; c <= head; c++) {
                    CHECK.due("key", m.key(c), c + 1);
                }
                d.offer(head);
                m.serve();
                CHECK.due("used index", d.usedIndex(), k + 1);
                CHECK.due("head", d.usedHead(k % size), head);
                CHECK.due("length", d.usedLength(k % size), head + 1);
            }
            CHECK.due("behind the last element", m.peek(d.used + 4 + 8 * size), 0);
        }
    }

    private static void headAsItWasRead() {
        CHECK.sentence("the element DONE modulo the size gets its head");
        VirtioMachine m = new VirtioMachine();
        m.key(7);
        m.key(0);
        Driver d = Driver.receive(m);
        d.descriptor(3, d.available + 4, 2, WRITE, 0).offer(3);
        m.serve();
        CHECK.due("what is filled lies over the head", Driver.half(m, d.available + 4), 7);
        CHECK.due("the head in the used ring", d.usedHead(0), 3);
    }

    private static void usedFlagsStay() {
        CHECK.sentence("Used: flags, an index (half words)");
        Driver d = transmit().descriptor(0, LETTERS, 1, 0, 0).offer(0);
        d.m.poke(d.used, 0x9999ABCD);
        d.m.serve();
        CHECK.due("flags and index", d.m.peek(d.used), 0x0001ABCD);
    }

    private static void interruptOfAChain() {
        CHECK.sentence("INTERRUPT STATUS bit 0");
        Driver d = transmit().descriptor(0, LETTERS, 1, 0, 0).offer(0).offer(0);
        d.m.serve();
        CHECK.due("behind a chain", d.interrupts(), 1);
        CHECK.due("pending", d.m.in(4112), 4);
        d.m.out(Driver.CONSOLE + 100, 1);
        CHECK.due("acknowledged", d.interrupts(), 0);
        d.m.serve();
        CHECK.due("behind the next", d.interrupts(), 1);
        d.offer(99);
        d.m.serve();
        CHECK.due("it stays in beside bit 1", d.interrupts(), 3);
    }

    private static void noInterrupt() {
        CHECK.sentence("INTERRUPT STATUS bit 0, unless NO INTERRUPT is set");
        for (int flags : new int[] {0, 1, 2, 3, 0x8000, 0xFFFE, 0xFFFF}) {
            Driver d = transmit().descriptor(0, LETTERS, 1, 0, 0).offer(0);
            Driver.setHalf(d.m, d.available, flags);
            d.m.serve();
            CHECK.due("used index", d.usedIndex(), 1);
            CHECK.due("with flags " + flags, d.interrupts(), flags % 2 == 0 ? 1 : 0);
            CHECK.due("pending", d.m.in(4112), flags % 2 == 0 ? 4 : 0);
        }
    }

    /** The used index lies over the available flags: 1 there forbids the first interrupt, 2 lets the second come. */
    private static void headFirstThenIndexThenFlags() {
        CHECK.sentence("What lies in RAM is read and written when it is needed, in the order that is named");
        Driver d = transmit(2, false).descriptor(0, LETTERS + 1, 1, 0, 0);
        d.m.out(Driver.CONSOLE + 68, 0);
        d.place(1, 2, d.table, 2050, 2048);
        d.m.out(Driver.CONSOLE + 68, 1);
        d.m.poke(2052, 7);
        d.m.serve();
        CHECK.due("used index", d.m.peek(2048), 65536);
        CHECK.due("the head lies over the available index", d.m.peek(2052), 0);
        CHECK.due("interrupts", d.interrupts(), 0);
        d.m.serve();
        CHECK.due("used index", d.m.peek(2048), 131072);
        CHECK.due("interrupts", d.interrupts(), 1);
    }

    private static void usedRingOverTheBuffer() {
        CHECK.sentence("What lies in RAM is read and written when it is needed");
        Driver d = transmit();
        d.m.poke(d.used + 4, 0x44434241);
        d.m.poke(d.used + 8, 0x48474645);
        prints("a buffer in the used ring is read first", d.descriptor(0, d.used + 4, 8, 0, 0).offer(0), "ABCDEFGH");
        VirtioMachine m = new VirtioMachine();
        m.key(99);
        Driver e = Driver.receive(m);
        e.descriptor(0, e.used + 8, 1, WRITE, 0).offer(0);
        m.serve();
        CHECK.due("the length is written behind what is filled", e.usedLength(0), 1);
    }

    /** IN of sector 0 fills with 1, 0, ..: the index of the console's available ring. */
    private static void diskAheadOfConsole() {
        CHECK.sentence("then the disk does one chain if one waits, then the console one");
        VirtioMachine m = new VirtioMachine();
        m.poke(2304, 1);
        m.poke(2320, 65536);
        Driver disk = Driver.disk(m).descriptor(0, 2304, 48, NEXT, 1).descriptor(1, 2400, 1, WRITE, 0).offer(0);
        m.serve();
        CHECK.due("the disk's byte 2", m.disk(2), 1);
        Driver console = Driver.transmit(m).descriptor(0, LETTERS, 1, 0, 0);
        m.poke(2304, 0);
        disk.descriptor(0, 2304, 16, NEXT, 1).descriptor(1, console.available, 32, WRITE | NEXT, 2)
            .descriptor(2, 2400, 1, WRITE, 0).offer(0);
        m.serve();
        CHECK.due("the disk's chains", disk.usedIndex(), 2);
        CHECK.due("the console's in the same step", console.usedIndex(), 1);
    }

    /** A character of input becomes the index of the disk's available ring. */
    private static void consoleBehindDisk() {
        CHECK.sentence("then the disk does one chain if one waits, then the console one");
        VirtioMachine m = new VirtioMachine();
        m.poke(2304, 4);
        Driver disk = Driver.disk(m);
        m.out(Driver.DISK + 68, 0);
        disk.place(0, 8, 2048, 2800, 2900);
        m.out(Driver.DISK + 68, 1);
        Driver.descriptorAt(m, 2048, 2304, 16, NEXT, 1);
        Driver.descriptorAt(m, 2064, 2400, 1, WRITE, 0);
        Driver.wake(m, Driver.CONSOLE, false);
        Driver console = new Driver(m, Driver.CONSOLE, 0, 4).descriptor(0, 2802, 1, WRITE, 0).offer(0);
        m.key(1);
        m.serve();
        CHECK.due("the disk was first, and had no chain", m.peek(2900), 0);
        m.serve();
        CHECK.due("the disk's chain in the next step", m.peek(2900), 65536);
        CHECK.due("status", console.status(), 15);
    }

    private static void coreAheadOfDevices() {
        CHECK.sentence("A STEP of the computer: one of the core, then the disk does one chain if one waits");
        Driver d = transmit().descriptor(0, LETTERS + 1, 1, 0, 0);
        Asm.set(d.m, 3, d.available, 0);
        Asm.set(d.m, 4, 1, 0);
        Asm.does(d.m, Asm.store(1, 4, 3, 2));
        CHECK.due("the chain that the core makes available in a step", d.usedIndex(), 1);
    }
}
