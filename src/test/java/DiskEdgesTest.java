/** "Terms", the disk: each sentence that names an edge has a test of its own. */
public final class DiskEdgesTest {
    private static final Check CHECK = new Check();
    private static final int NEXT = Driver.NEXT;
    private static final int WRITE = Driver.WRITE;
    private static final int IN = 0;
    private static final int OUT = 1;
    private static final int FLUSH = 4;
    private static final int ID = 8;
    private static final int REQUEST = 2048;
    private static final int DATA = 2304;
    private static final int FILLED = 2816;
    private static final int RESULT = 3200;

    public static void main(String[] args) {
        sizeOfTheDisk();
        requestTooShort();
        requestInPieces();
        dataRightBehindTheRequest();
        noByteForTheResult();
        resultIsTheLastByte();
        resultAheadOfEmptyBuffers();
        inOfNoMultipleOf32();
        inOfTooManySectors();
        inBehindTheLastSector();
        inOfNoSector();
        inFillsNothingWhenRefused();
        inLeavesDataAside();
        outOfNoMultipleOf32();
        outOfTooManySectors();
        outBehindTheLastSector();
        outOfNoSector();
        outFillsNothing();
        sectorIsAWord();
        secondWordIsOfNoMeaning();
        flush();
        idOfAtMost20Bytes();
        otherTypes();
        fourthWord();
        fourthWordOfOthers();
        lengthCountsTheResult();
        requestIsReadFirst();
        resultBehindWhatIsFilled();
        usedRingBehindTheResult();
        bytesAreKept();
        CHECK.end();
    }

    private static int octetOfData(int k) {
        return k * 7 + 3 & 255;
    }

    private static Driver disk() {
        VirtioMachine m = new VirtioMachine();
        int[] data = new int[288];
        for (int k = 0; k < data.length; k++) {
            data[k] = octetOfData(k);
        }
        Driver.setOctets(m, DATA, data);
        m.poke(RESULT, 0x55555555);
        return Driver.disk(m);
    }

    /** The bytes of the disk are those of DATA. */
    private static Driver fullDisk() {
        Driver d = disk();
        CHECK.due("OUT of all sectors", request(d, OUT, 0, 256, 0), 0);
        return d;
    }

    /** One request with so many bytes of data and so many that can be filled; the answer is the result. */
    private static int request(Driver d, int type, int sector, int data, int room) {
        d.m.poke(REQUEST, type);
        d.m.poke(REQUEST + 8, sector);
        d.descriptor(0, REQUEST, 16, NEXT, 1).descriptor(1, DATA, data, NEXT, 2)
            .descriptor(2, FILLED, room, NEXT | WRITE, 3).descriptor(3, RESULT, 1, WRITE, 0).offer(0);
        d.m.serve();
        CHECK.due("status", d.status(), 15);
        CHECK.due("used index", d.usedIndex(), d.index);
        CHECK.due("beside the result", d.m.peek(RESULT) >>> 8, 0x555555);
        return d.m.peek(RESULT) & 255;
    }

    private static int length(Driver d) {
        return d.usedLength((d.index - 1) % d.size);
    }

    private static void isBad(String what, Driver d) {
        d.m.serve();
        CHECK.due(what + ": status", d.status(), 79);
        CHECK.due(what + ": interrupts", d.interrupts(), 2);
        CHECK.due(what + ": used index", d.usedIndex(), 0);
        CHECK.due(what + ": the result", d.m.peek(RESULT), 0x55555555);
    }

    private static void diskIs(String what, Driver d, int from, int to) {
        for (int i = 0; i < 256; i++) {
            CHECK.due(what + ": byte " + i, d.m.disk(i), i >= from && i < to ? octetOfData(i - from) : 0);
        }
    }

    /** How many words of what can be filled are not 0. */
    private static int filledWords(Driver d) {
        int count = 0;
        for (int k = 0; k < 72; k++) {
            count += d.m.peek(FILLED + 4 * k) != 0 ? 1 : 0;
        }
        return count;
    }

    private static void sizeOfTheDisk() {
        CHECK.sentence("THE DISK has 8 sectors of 32 bytes");
        Driver d = disk();
        CHECK.due("OUT into the last sector", request(d, OUT, 7, 32, 0), 0);
        diskIs("the last sector", d, 224, 256);
        CHECK.outOfBounds("disk(256)", () -> d.m.disk(256));
    }

    private static void requestTooShort() {
        CHECK.sentence("has 16 bytes of a request (a word TYPE, a word, a word SECTOR, a word that is to be 0)");
        for (int length = 0; length < 16; length++) {
            isBad("a request of " + length, disk().descriptor(0, REQUEST, length, NEXT, 1)
                .descriptor(1, RESULT, 1, WRITE, 0).offer(0));
        }
        isBad("of 7 and 8", disk().descriptor(0, REQUEST, 7, NEXT, 1).descriptor(1, REQUEST, 8, NEXT, 2)
            .descriptor(2, RESULT, 1, WRITE, 0).offer(0));
        isBad("of none", disk().descriptor(0, RESULT, 1, WRITE, 0).offer(0));
        Driver d = disk().descriptor(0, REQUEST, 16, NEXT, 1).descriptor(1, RESULT, 1, WRITE, 0).offer(0);
        d.m.serve();
        CHECK.due("a request of 16", d.status(), 15);
    }

    private static void requestInPieces() {
        CHECK.sentence("What can be read of a chain, one after the other");
        Driver d = disk();
        d.m.poke(REQUEST, OUT);
        d.m.poke(REQUEST + 8, 5);
        d.descriptor(0, REQUEST, 1, NEXT, 1).descriptor(1, REQUEST + 1, 2, NEXT, 2).descriptor(2, 0, 0, NEXT, 3)
            .descriptor(3, REQUEST + 3, 6, NEXT, 4).descriptor(4, REQUEST + 9, 7, NEXT, 5)
            .descriptor(5, DATA, 31, NEXT, 6).descriptor(6, DATA + 31, 1, NEXT, 7).descriptor(7, RESULT, 1, WRITE, 0);
        d.offer(0);
        d.m.serve();
        CHECK.due("the result", d.m.peek(RESULT), 0x55555500);
        diskIs("sector 5", d, 160, 192);
    }

    private static void dataRightBehindTheRequest() {
        CHECK.sentence("a word that is to be 0), then DATA");
        Driver d = disk();
        for (int k = 0; k < 32; k += 4) {
            d.m.poke(REQUEST + 16 + k, d.m.peek(DATA + k));
        }
        d.m.poke(REQUEST, OUT);
        d.descriptor(0, REQUEST, 48, NEXT, 1).descriptor(1, RESULT, 1, WRITE, 0).offer(0);
        d.m.serve();
        CHECK.due("the result", d.m.peek(RESULT), 0x55555500);
        diskIs("sector 0", d, 0, 32);
    }

    private static void noByteForTheResult() {
        CHECK.sentence("what can be written has at least one byte, the last of which is the RESULT; "
            + "else the chain is bad");
        isBad("nothing to WRITE", disk().descriptor(0, REQUEST, 16, 0, 0).offer(0));
        isBad("an empty one to WRITE", disk().descriptor(0, REQUEST, 16, NEXT, 1).descriptor(1, RESULT, 0, WRITE, 0)
            .offer(0));
        isBad("empty ones to WRITE", disk().descriptor(0, REQUEST, 16, NEXT, 1)
            .descriptor(1, RESULT, 0, WRITE | NEXT, 2).descriptor(2, 4096, 0, WRITE, 0).offer(0));
    }

    private static void resultIsTheLastByte() {
        CHECK.sentence("the last of which is the RESULT");
        Driver d = disk();
        d.m.poke(REQUEST, 99);
        d.descriptor(0, REQUEST, 16, NEXT, 1).descriptor(1, FILLED, 5, WRITE | NEXT, 2)
            .descriptor(2, RESULT, 3, WRITE, 0).offer(0);
        d.m.serve();
        CHECK.due("byte 2 of 3", d.m.peek(RESULT), 0x55025555);
        CHECK.due("what is before it", d.m.peek(FILLED) | d.m.peek(FILLED + 4), 0);
    }

    private static void resultAheadOfEmptyBuffers() {
        CHECK.sentence("the last of which is the RESULT");
        Driver d = disk();
        d.m.poke(REQUEST, 99);
        d.descriptor(0, REQUEST, 16, NEXT, 1).descriptor(1, RESULT, 2, WRITE | NEXT, 2)
            .descriptor(2, FILLED, 0, WRITE | NEXT, 3).descriptor(3, 4096, 0, WRITE, 0).offer(0);
        d.m.serve();
        CHECK.due("byte 1 of 2", d.m.peek(RESULT), 0x55550255);
    }

    private static void inOfNoMultipleOf32() {
        CHECK.sentence("if what can be written before the result has a multiple of 32 bytes");
        for (int room : new int[] {1, 16, 31, 33, 63, 65, 255}) {
            Driver d = fullDisk();
            CHECK.due("IN of " + room, request(d, IN, 0, 0, room), 1);
            CHECK.due("length", length(d), 1);
            CHECK.due("filled", filledWords(d), 0);
        }
        Driver d = fullDisk();
        CHECK.due("IN of 32", request(d, IN, 0, 0, 32), 0);
    }

    private static void inOfTooManySectors() {
        CHECK.sentence("those of n sectors, and SECTOR is 0 .. 8 - n");
        Driver d = fullDisk();
        CHECK.due("8 from 0 on", request(d, IN, 0, 0, 256), 0);
        int[] filled = Driver.octets(d.m, FILLED, 256);
        for (int k = 0; k < 256; k++) {
            CHECK.due("byte " + k, filled[k], octetOfData(k));
        }
        CHECK.due("length", length(d), 257);
        for (int sector : new int[] {0, -1, 1, 8}) {
            Driver e = fullDisk();
            CHECK.due("9 from " + sector + " on", request(e, IN, sector, 0, 288), 1);
            CHECK.due("length", length(e), 1);
            CHECK.due("filled", filledWords(e), 0);
        }
    }

    private static void inBehindTheLastSector() {
        CHECK.sentence("those of n sectors, and SECTOR is 0 .. 8 - n");
        for (int n = 1; n <= 8; n++) {
            Driver d = fullDisk();
            CHECK.due(n + " that end with the last", request(d, IN, 8 - n, 0, 32 * n), 0);
            CHECK.due("length", length(d), 32 * n + 1);
            CHECK.due("the first byte", d.m.peek(FILLED) & 255, octetOfData(32 * (8 - n)));
            CHECK.due("the last byte", d.m.peek(FILLED + 32 * n - 4) >>> 24, octetOfData(255));
            Driver e = fullDisk();
            CHECK.due(n + " that end behind it", request(e, IN, 9 - n, 0, 32 * n), 1);
            CHECK.due("filled", filledWords(e), 0);
            Driver f = fullDisk();
            CHECK.due(n + " from -1 on", request(f, IN, -1, 0, 32 * n), 1);
            CHECK.due("filled", filledWords(f), 0);
        }
    }

    private static void inOfNoSector() {
        CHECK.sentence("SECTOR is 0 .. 8 - n");
        for (int sector : new int[] {0, 1, 8, 9, -1}) {
            Driver d = fullDisk();
            CHECK.due("none from " + sector + " on", request(d, IN, sector, 0, 0), sector >= 0 && sector <= 8 ? 0 : 1);
            CHECK.due("length", length(d), 1);
        }
    }

    private static void inFillsNothingWhenRefused() {
        CHECK.sentence("else 1 (nothing is filled)");
        Driver d = fullDisk();
        CHECK.due("7, 8", request(d, IN, 7, 0, 64), 1);
        CHECK.due("filled", filledWords(d), 0);
        CHECK.due("length", length(d), 1);
        CHECK.due("it is a chain like others", d.interrupts(), 1);
    }

    private static void inLeavesDataAside() {
        CHECK.sentence("they are filled with the sectors from SECTOR on (result 0)");
        Driver d = fullDisk();
        CHECK.due("IN with data", request(d, IN, 2, 5, 32), 0);
        CHECK.due("the first byte", d.m.peek(FILLED) & 255, octetOfData(64));
        CHECK.due("length", length(d), 33);
        CHECK.due("behind them", d.m.peek(FILLED + 32), 0);
        CHECK.due("the disk is as it was", d.m.disk(0), octetOfData(0));
    }

    private static void outOfNoMultipleOf32() {
        CHECK.sentence("1, OUT: the data go there, with the same conditions");
        for (int data : new int[] {1, 16, 31, 33, 63, 65, 255, 257}) {
            Driver d = disk();
            CHECK.due("OUT of " + data, request(d, OUT, 0, data, 0), 1);
            CHECK.due("length", length(d), 1);
            diskIs("nothing", d, 0, 0);
        }
    }

    private static void outOfTooManySectors() {
        CHECK.sentence("1, OUT: the data go there, with the same conditions");
        Driver all = disk();
        CHECK.due("8 from 0 on", request(all, OUT, 0, 256, 0), 0);
        CHECK.due("length", length(all), 1);
        diskIs("all", all, 0, 256);
        for (int sector : new int[] {0, -1, 1}) {
            Driver d = disk();
            CHECK.due("9 from " + sector + " on", request(d, OUT, sector, 288, 0), 1);
            diskIs("nothing", d, 0, 0);
        }
    }

    private static void outBehindTheLastSector() {
        CHECK.sentence("1, OUT: the data go there, with the same conditions");
        for (int n = 1; n <= 8; n++) {
            Driver d = disk();
            CHECK.due(n + " that end with the last", request(d, OUT, 8 - n, 32 * n, 0), 0);
            diskIs("the last ones", d, 256 - 32 * n, 256);
            Driver e = disk();
            CHECK.due(n + " that end behind it", request(e, OUT, 9 - n, 32 * n, 0), 1);
            CHECK.due("the last byte", e.m.disk(255), 0);
            Driver f = disk();
            CHECK.due(n + " from -1 on", request(f, OUT, -1, 32 * n, 0), 1);
            CHECK.due("the first byte", f.m.disk(0), 0);
        }
    }

    private static void outOfNoSector() {
        CHECK.sentence("1, OUT: the data go there, with the same conditions");
        for (int sector : new int[] {0, 8, 9, -1}) {
            Driver d = disk();
            CHECK.due("none from " + sector + " on", request(d, OUT, sector, 0, 0), sector >= 0 && sector <= 8 ? 0 : 1);
            diskIs("nothing", d, 0, 0);
        }
    }

    private static void outFillsNothing() {
        CHECK.sentence("(what can be written before the result is not filled)");
        for (int room : new int[] {1, 31, 32, 64}) {
            Driver d = disk();
            CHECK.due("OUT with room for " + room, request(d, OUT, 1, 32, room), 0);
            CHECK.due("filled", filledWords(d), 0);
            CHECK.due("length", length(d), 1);
            CHECK.due("the data went there", d.m.disk(32), octetOfData(0));
        }
    }

    private static void sectorIsAWord() {
        CHECK.sentence("a word SECTOR");
        for (int sector : new int[] {256, 65536, 0x08000000, 0x7FFFFFFF, Integer.MIN_VALUE, -8}) {
            Driver d = disk();
            CHECK.due("OUT to " + sector, request(d, OUT, sector, 32, 0), 1);
            diskIs("nothing", d, 0, 0);
            Driver e = fullDisk();
            CHECK.due("IN from " + sector, request(e, IN, sector, 0, 32), 1);
        }
    }

    private static void secondWordIsOfNoMeaning() {
        CHECK.sentence("(a word TYPE, a word, a word SECTOR, a word that is to be 0)");
        Driver d = disk();
        d.m.poke(REQUEST + 4, -1);
        CHECK.due("OUT", request(d, OUT, 0, 32, 0), 0);
        CHECK.due("IN", request(d, IN, 0, 0, 32), 0);
        CHECK.due("the first word", d.m.peek(FILLED), d.m.peek(DATA));
    }

    private static void flush() {
        CHECK.sentence("4, FLUSH: 0");
        for (int sector : new int[] {0, 9, -1}) {
            Driver d = fullDisk();
            CHECK.due("FLUSH", request(d, FLUSH, sector, 5, 32), 0);
            CHECK.due("length", length(d), 1);
            CHECK.due("filled", filledWords(d), 0);
            diskIs("as it was", d, 0, 256);
        }
    }

    private static void idOfAtMost20Bytes() {
        CHECK.sentence("8, ID: of what can be written before the result at most 20 bytes become 65, 66, ..: 0");
        for (int room : new int[] {0, 1, 2, 19, 20, 21, 32, 100}) {
            Driver d = disk();
            CHECK.due("ID", request(d, ID, -1, 3, room), 0);
            int want = room < 20 ? room : 20;
            CHECK.due("length", length(d), want + 1);
            int[] filled = Driver.octets(d.m, FILLED, 104);
            for (int k = 0; k < filled.length; k++) {
                CHECK.due("byte " + k + " of " + room, filled[k], k < want ? 65 + k : 0);
            }
        }
        Driver d = disk();
        d.m.poke(REQUEST, ID);
        d.descriptor(0, REQUEST, 16, NEXT, 1).descriptor(1, FILLED, 18, WRITE | NEXT, 2)
            .descriptor(2, FILLED + 64, 9, WRITE, 0).offer(0);
        d.m.serve();
        CHECK.due("over two buffers", d.m.peek(FILLED + 64), 83 | 84 << 8);
        CHECK.due("its result", d.m.peek(FILLED + 72) & 255, 0);
        CHECK.due("length", length(d), 21);
    }

    private static void otherTypes() {
        CHECK.sentence("8, ID: of what can be written before the result at most 20 bytes become 65, 66, ..: 0; else 2");
        for (int type : new int[] {2, 3, 5, 6, 7, 9, 12, 256, 257, 65536, -1, Integer.MIN_VALUE, Integer.MIN_VALUE + 1}) {
            Driver d = fullDisk();
            CHECK.due("type " + type, request(d, type, 0, 32, 32), 2);
            CHECK.due("length", length(d), 1);
            CHECK.due("filled", filledWords(d), 0);
            CHECK.due("the disk", d.m.disk(1), octetOfData(1));
        }
    }

    private static void fourthWord() {
        CHECK.sentence("Also 1 if the fourth word is not 0, for IN and OUT");
        for (int word : new int[] {1, 256, 65536, -1, Integer.MIN_VALUE}) {
            Driver d = disk();
            d.m.poke(REQUEST + 12, word);
            CHECK.due("OUT", request(d, OUT, 0, 32, 0), 1);
            diskIs("nothing", d, 0, 0);
            Driver e = fullDisk();
            e.m.poke(REQUEST + 12, word);
            CHECK.due("IN", request(e, IN, 0, 0, 32), 1);
            CHECK.due("length", length(e), 1);
            CHECK.due("filled", filledWords(e), 0);
            CHECK.due("IN of none", request(e, IN, 0, 0, 0), 1);
        }
    }

    private static void fourthWordOfOthers() {
        CHECK.sentence("for IN and OUT");
        Driver d = disk();
        d.m.poke(REQUEST + 12, 1);
        CHECK.due("FLUSH", request(d, FLUSH, 0, 0, 0), 0);
        CHECK.due("ID", request(d, ID, 0, 0, 4), 0);
        CHECK.due("length", length(d), 5);
        CHECK.due("another", request(d, 2, 0, 0, 0), 2);
    }

    private static void lengthCountsTheResult() {
        CHECK.sentence("Its length is how many bytes were filled, the result counted");
        Driver d = fullDisk();
        request(d, IN, 0, 0, 64);
        CHECK.due("IN of 2", length(d), 65);
        request(d, FLUSH, 0, 0, 64);
        CHECK.due("FLUSH", length(d), 1);
        request(d, ID, 0, 0, 64);
        CHECK.due("ID", length(d), 21);
        request(d, IN, 8, 0, 64);
        CHECK.due("IN that is refused", length(d), 1);
        request(d, OUT, 0, 64, 64);
        CHECK.due("OUT", length(d), 1);
    }

    private static void requestIsReadFirst() {
        CHECK.sentence("What lies in RAM is read and written when it is needed, in the order that is named");
        Driver d = fullDisk();
        d.m.poke(REQUEST, IN);
        d.m.poke(REQUEST + 8, 1);
        d.descriptor(0, REQUEST, 16, NEXT, 1).descriptor(1, REQUEST, 32, WRITE | NEXT, 2)
            .descriptor(2, RESULT, 1, WRITE, 0).offer(0);
        d.m.serve();
        CHECK.due("the result", d.m.peek(RESULT) & 255, 0);
        for (int k = 0; k < 32; k++) {
            CHECK.due("byte " + k, Driver.octet(d.m, REQUEST + k), octetOfData(32 + k));
        }
    }

    private static void resultBehindWhatIsFilled() {
        CHECK.sentence("What lies in RAM is read and written when it is needed, in the order that is named");
        Driver d = fullDisk();
        d.m.poke(REQUEST, IN);
        d.m.poke(REQUEST + 8, 0);
        d.descriptor(0, REQUEST, 16, NEXT, 1).descriptor(1, FILLED, 32, WRITE | NEXT, 2)
            .descriptor(2, FILLED + 1, 1, WRITE, 0).offer(0);
        d.m.serve();
        CHECK.due("the result over what was filled", d.m.peek(FILLED), d.m.peek(DATA) & ~0xFF00);
    }

    private static void usedRingBehindTheResult() {
        CHECK.sentence("What lies in RAM is read and written when it is needed, in the order that is named");
        Driver d = disk();
        d.m.poke(REQUEST, 99);
        d.descriptor(0, REQUEST, 16, NEXT, 1).descriptor(1, d.used + 8, 1, WRITE, 0).offer(0);
        d.m.serve();
        CHECK.due("the length over the result", d.usedLength(0), 1);
    }

    private static void bytesAreKept() {
        CHECK.sentence("the disk's bytes, input and output stay");
        Driver d = fullDisk();
        d.m.out(Driver.DISK + 112, 0);
        diskIs("as it was", d, 0, 256);
    }
}
