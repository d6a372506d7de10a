/** Promises 7 and 14: the requests of the disk. */
public final class DiskTest {
    private static final Check CHECK = new Check();
    private static final int NEXT = Driver.NEXT;
    private static final int WRITE = Driver.WRITE;
    private static final int REQUEST = 2048;
    private static final int DATA = 2304;
    private static final int FILLED = 2816;
    private static final int RESULT = 3333;

    public static void main(String[] args) {
        outThenIn();
        sectorEdges();
        lengthEdges();
        fourthWord();
        flush();
        identification();
        unknownTypes();
        badRequests();
        spreadRequest();
        resultInAnEmptyEnd();
        dataIsKeptOverReset();
        inOverItsOwnRequest();
        programDrivesTheDisk();
        CHECK.end();
    }

    private static Driver disk() {
        VirtioMachine m = new VirtioMachine();
        int[] data = new int[320];
        for (int k = 0; k < 320; k++) {
            data[k] = k * 7 + 3;
        }
        Driver.setOctets(m, DATA, data);
        m.poke(RESULT & -4, -1);
        return Driver.disk(m);
    }

    /** One request with so many bytes of data and so many to be filled; the answer is the result. */
    private static int request(Driver d, int type, int sector, int data, int filled) {
        d.m.poke(REQUEST, type);
        d.m.poke(REQUEST + 8, sector);
        d.descriptor(0, REQUEST, 16, NEXT, 1).descriptor(1, DATA, data, NEXT, 2)
            .descriptor(2, FILLED, filled, NEXT | WRITE, 3).descriptor(3, RESULT, 1, WRITE, 0).offer(0);
        d.m.serve();
        CHECK.due("status", d.status(), 15);
        CHECK.due("used", d.usedIndex(), d.index);
        return Driver.octet(d.m, RESULT);
    }

    private static int length(Driver d) {
        return d.usedLength((d.index - 1) % d.size);
    }

    private static void outThenIn() {
        Driver d = disk();
        d.m.poke(REQUEST + 4, -1);
        CHECK.due("out", request(d, 1, 2, 64, 0), 0);
        CHECK.due("length", length(d), 1);
        CHECK.due("interrupts", d.interrupts(), 1);
        for (int i = 0; i < 256; i++) {
            int want = i >= 64 && i < 128 ? (i - 64) * 7 + 3 & 255 : 0;
            CHECK.due("disk " + i, d.m.disk(i), want);
        }
        CHECK.due("in", request(d, 0, 1, 0, 96), 0);
        CHECK.due("length", length(d), 97);
        int[] filled = Driver.octets(d.m, FILLED, 96);
        for (int i = 0; i < 96; i++) {
            int want = i >= 32 ? (i - 32) * 7 + 3 & 255 : 0;
            CHECK.due("filled " + i, filled[i], want);
        }
        CHECK.due("behind what is filled", d.m.peek(FILLED + 96), 0);
    }

    private static void sectorEdges() {
        int[][] cases = {{0, 32, 0}, {7, 32, 0}, {8, 32, 1}, {-1, 32, 1}, {0, 256, 0}, {1, 256, 1}, {7, 64, 1},
            {6, 64, 0}, {8, 0, 0}, {0, 0, 0}, {9, 0, 1}, {-1, 0, 1}, {0, 288, 1}, {-1, 288, 1}, {Integer.MIN_VALUE, 32, 1},
            {Integer.MAX_VALUE, 32, 1}, {0x08000000, 32, 1}};
        for (int[] c : cases) {
            Driver out = disk();
            CHECK.due("out of " + c[1] + " at " + c[0], request(out, 1, c[0], c[1], 0), c[2]);
            CHECK.due("length", length(out), 1);
            CHECK.due("disk", written(out.m) > 0, c[2] == 0 && c[1] > 0);
            Driver in = disk();
            request(in, 1, 0, 256, 0);
            CHECK.due("in of " + c[1] + " at " + c[0], request(in, 0, c[0], 0, c[1]), c[2]);
            CHECK.due("length", length(in), c[2] == 0 ? c[1] + 1 : 1);
            int first = Driver.octet(in.m, FILLED);
            CHECK.due("filled", first, c[2] == 0 && c[1] > 0 ? c[0] * 32 * 7 + 3 & 255 : 0);
        }
    }

    private static int written(VirtioMachine m) {
        int count = 0;
        for (int i = 0; i < 256; i++) {
            count += m.disk(i) != 0 ? 1 : 0;
        }
        return count;
    }

    private static void lengthEdges() {
        for (int length : new int[] {1, 16, 31, 33, 63, 255, 257}) {
            Driver d = disk();
            CHECK.due("out of " + length, request(d, 1, 0, length, 0), 1);
            CHECK.due("disk", written(d.m), 0);
            CHECK.due("in of " + length, request(d, 0, 0, 0, length), 1);
            CHECK.due("length", length(d), 1);
        }
        Driver d = disk();
        CHECK.due("out does not look at what can be written", request(d, 1, 0, 32, 5), 0);
        CHECK.due("length", length(d), 1);
        CHECK.due("and does not fill it", d.m.peek(FILLED), 0);
        CHECK.due("in does not look at the data", request(d, 0, 0, 5, 32), 0);
        CHECK.due("length", length(d), 33);
        CHECK.due("filled", Driver.octet(d.m, FILLED + 31), 31 * 7 + 3);
        CHECK.due("the data are as before", d.m.peek(DATA), 3 | 10 << 8 | 17 << 16 | 24 << 24);
        CHECK.due("flush", request(d, 4, 0, 0, 32), 0);
        CHECK.due("length behind a longer one", length(d), 1);
    }

    private static void fourthWord() {
        for (int word : new int[] {1, -1, 1 << 31}) {
            Driver d = disk();
            d.m.poke(REQUEST + 12, word);
            CHECK.due("out", request(d, 1, 0, 32, 0), 1);
            CHECK.due("disk", written(d.m), 0);
            CHECK.due("in", request(d, 0, 0, 0, 32), 1);
            CHECK.due("length", length(d), 1);
            CHECK.due("flush", request(d, 4, 0, 0, 0), 0);
            CHECK.due("id", request(d, 8, 0, 0, 4), 0);
            CHECK.due("unknown", request(d, 9, 0, 0, 0), 2);
        }
    }

    private static void flush() {
        Driver d = disk();
        CHECK.due("flush", request(d, 4, 99, 5, 7), 0);
        CHECK.due("length", length(d), 1);
        CHECK.due("nothing is filled", d.m.peek(FILLED), 0);
        CHECK.due("disk", written(d.m), 0);
    }

    private static void identification() {
        for (int room : new int[] {0, 1, 19, 20, 21, 40}) {
            Driver d = disk();
            CHECK.due("id", request(d, 8, -1, 3, room), 0);
            int filled = Math.min(room, 20);
            CHECK.due("length", length(d), filled + 1);
            for (int k = 0; k < 41; k++) {
                CHECK.due("id " + k, Driver.octet(d.m, FILLED + k), k < filled ? 65 + k : 0);
            }
        }
    }

    private static void unknownTypes() {
        for (int type : new int[] {2, 3, 5, 6, 7, 9, 11, 13, 256, -1, Integer.MIN_VALUE, 1 << 16}) {
            Driver d = disk();
            CHECK.due("type " + type, request(d, type, 0, 32, 32), 2);
            CHECK.due("length", length(d), 1);
            CHECK.due("nothing is filled", d.m.peek(FILLED), 0);
            CHECK.due("disk", written(d.m), 0);
        }
    }

    private static void badRequests() {
        for (int length = 0; length < 16; length++) {
            Driver d = disk();
            d.descriptor(0, REQUEST, length, NEXT, 1).descriptor(1, RESULT, 1, WRITE, 0).offer(0);
            bad("a request of " + length, d);
        }
        bad("no result", disk().descriptor(0, REQUEST, 16, 0, 0).offer(0));
        bad("an empty result", disk().descriptor(0, REQUEST, 16, NEXT, 1).descriptor(1, RESULT, 0, WRITE, 0).offer(0));
        bad("no request", disk().descriptor(0, RESULT, 1, WRITE, 0).offer(0));
    }

    private static void bad(String what, Driver d) {
        d.m.serve();
        CHECK.due(what + ": status", d.status(), 79);
        CHECK.due(what + ": interrupts", d.interrupts(), 2);
        CHECK.due(what + ": used", d.usedIndex(), 0);
        CHECK.due(what + ": result", Driver.octet(d.m, RESULT), 255);
        CHECK.due(what + ": pending", d.m.in(4112), 2);
    }

    private static void spreadRequest() {
        Driver d = disk();
        int[] request = {1, 0, 0, 0, 9, 9, 9, 9, 5, 0, 0, 0, 0, 0, 0, 0};
        for (int k = 0; k < 16; k++) {
            Driver.setOctet(d.m, (k < 7 ? 2051 : 2100 - 7) + k, request[k]);
        }
        for (int k = 0; k < 32; k++) {
            Driver.setOctet(d.m, (k < 4 ? 2109 : 2200 - 4) + k, 100 + k);
        }
        d.descriptor(0, 2051, 7, NEXT, 1).descriptor(1, 2100, 13, NEXT, 2).descriptor(2, 2200, 28, NEXT, 3)
            .descriptor(3, FILLED, 3, WRITE | NEXT, 4).descriptor(4, RESULT, 1, WRITE, 0).offer(0);
        d.m.serve();
        CHECK.due("status", d.status(), 15);
        CHECK.due("result", Driver.octet(d.m, RESULT), 0);
        for (int k = 0; k < 32; k++) {
            CHECK.due("disk", d.m.disk(160 + k), 100 + k);
        }
        Driver.setOctet(d.m, 2051, 0);
        d.descriptor(1, 2100, 9, NEXT, 2).descriptor(2, 2501, 13, NEXT | WRITE, 3)
            .descriptor(3, 2602, 0, WRITE | NEXT, 4).descriptor(4, 2703, 20, WRITE, 0).offer(0);
        d.m.serve();
        CHECK.due("length", d.usedLength(1), 33);
        for (int k = 0; k < 32; k++) {
            CHECK.due("filled", Driver.octet(d.m, (k < 13 ? 2501 : 2703 - 13) + k), 100 + k);
        }
        CHECK.due("the result is the last byte", Driver.octet(d.m, 2722), 0);
    }

    private static void resultInAnEmptyEnd() {
        Driver d = disk();
        d.m.poke(REQUEST, 77);
        d.descriptor(0, REQUEST, 16, NEXT, 1).descriptor(1, RESULT - 1, 2, WRITE | NEXT, 2)
            .descriptor(2, 0, 0, WRITE | NEXT, 3).descriptor(3, 4096, 0, WRITE, 0).offer(0);
        d.m.serve();
        CHECK.due("result", Driver.octet(d.m, RESULT), 2);
        CHECK.due("before it", Driver.octet(d.m, RESULT - 1), 255);
        CHECK.due("length", length(d), 1);
    }

    private static void dataIsKeptOverReset() {
        Driver d = disk();
        request(d, 1, 0, 256, 0);
        d.m.out(Driver.DISK + 112, 0);
        CHECK.due("disk", d.m.disk(0), 3);
        CHECK.due("disk", d.m.disk(255), 255 * 7 + 3 & 255);
        CHECK.due("pending", d.m.in(4112), 2);
    }

    private static void inOverItsOwnRequest() {
        Driver d = disk();
        request(d, 1, 3, 32, 0);
        d.m.poke(REQUEST, 0);
        d.m.poke(REQUEST + 8, 3);
        d.descriptor(0, REQUEST, 16, NEXT, 1).descriptor(1, REQUEST, 32, WRITE | NEXT, 2)
            .descriptor(2, REQUEST, 1, WRITE, 0).offer(0);
        d.m.serve();
        CHECK.due("the result comes last", Driver.octet(d.m, REQUEST), 0);
        for (int k = 1; k < 32; k++) {
            CHECK.due("filled", Driver.octet(d.m, REQUEST + k), k * 7 + 3 & 255);
        }
        CHECK.due("length", length(d), 33);
    }

    /** The chain is done in the very step in which the core makes it available. */
    private static void programDrivesTheDisk() {
        Driver d = disk();
        d.m.poke(REQUEST, 4);
        d.descriptor(0, REQUEST, 16, NEXT, 1).descriptor(1, RESULT, 1, WRITE, 0);
        Asm.set(d.m, 1, d.available, 0);
        Asm.put(d.m, 0, Asm.addi(2, 0, 1), Asm.store(1, 2, 1, 2), Asm.NOP);
        d.m.run(1);
        CHECK.due("used", d.usedIndex(), 0);
        d.m.run(1);
        CHECK.due("used", d.usedIndex(), 1);
        CHECK.due("result", Driver.octet(d.m, RESULT), 0);
    }
}
