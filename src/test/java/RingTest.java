import java.util.Arrays;

/** Promises 6 and 7: how chains are found, which are bad, and how they are answered in the used ring. */
public final class RingTest {
    private static final Check CHECK = new Check();
    private static final int NEXT = Driver.NEXT;
    private static final int WRITE = Driver.WRITE;
    private static final int INDIRECT = Driver.INDIRECT;
    private static final int TABLE = 2560;
    private static final int LETTERS = 3072;

    public static void main(String[] args) {
        goodChains();
        badNumbers();
        badDescriptors();
        badOrder();
        tables();
        badTables();
        indirectHasToBeAccepted();
        tableInTheFirstDescriptorOfRam();
        bigTables();
        bothInterrupts();
        badChainsDoNothingElse();
        onlyLiveDevices();
        usedRing();
        indexFarAhead();
        noInterrupt();
        countsBegin();
        lastWriteCounts();
        buffersAreFoundFirst();
        oneChainInAStep();
        CHECK.end();
    }

    /** The console's transmit queue with letters in RAM; printing is the simplest way to see a chain's buffers. */
    private static Driver transmit(int size, boolean indirect) {
        VirtioMachine m = new VirtioMachine();
        for (int k = 0; k < 64; k += 4) {
            Driver.setOctets(m, LETTERS + k, 64 + k, 65 + k, 66 + k, 67 + k);
        }
        Driver.wake(m, Driver.CONSOLE, indirect);
        return new Driver(m, Driver.CONSOLE, 1, size);
    }

    private static Driver transmit() {
        return transmit(8, true);
    }

    private static void prints(String what, Driver d, String text) {
        d.m.serve();
        CHECK.due(what + ": status", d.status(), 15);
        CHECK.due(what + ": interrupts", d.interrupts(), 1);
        CHECK.due(what + ": used", d.usedIndex(), 1);
        CHECK.due(what + ": printed", d.m.printed(-1), text.length());
        for (int k = 0; k < text.length() && k < d.m.printed(-1); k++) {
            CHECK.due(what + ": character " + k, d.m.printed(k), text.charAt(k));
        }
    }

    private static void isBad(String what, Driver d) {
        d.m.serve();
        CHECK.due(what + ": status", d.status(), 79);
        CHECK.due(what + ": interrupts", d.interrupts(), 2);
        CHECK.due(what + ": used", d.usedIndex(), 0);
        CHECK.due(what + ": printed", d.m.printed(-1), 0);
    }

    private static void goodChains() {
        prints("one", transmit().descriptor(3, LETTERS + 1, 2, 0, 99).offer(3), "AB");
        prints("two", transmit().descriptor(3, LETTERS + 1, 2, NEXT, 7).descriptor(7, LETTERS + 9, 3, 0, 0).offer(3),
            "ABIJK");
        prints("empty ones", transmit().descriptor(0, 4096, 0, NEXT, 1).descriptor(1, LETTERS + 1, 1, NEXT, 2)
            .descriptor(2, 0, 0, NEXT, 3).descriptor(3, LETTERS + 2, 1, 0, 0).offer(0), "AB");
        prints("nothing", transmit().descriptor(0, 0, 0, 0, 0).offer(0), "");
        prints("to write alone", transmit().descriptor(0, LETTERS, 9, WRITE, 0).offer(0), "");
        prints("read, then write", transmit().descriptor(0, LETTERS + 5, 1, NEXT, 1)
            .descriptor(1, LETTERS, 9, WRITE | NEXT, 2).descriptor(2, LETTERS, 9, WRITE, 0).offer(0), "E");
        Driver end = transmit().descriptor(0, 4095, 1, 0, 0).offer(0);
        end.m.poke(4092, 'z' << 24);
        prints("the last byte", end, "z");
        Driver all = transmit(2, true).descriptor(0, LETTERS + 1, 1, NEXT, 1).descriptor(1, LETTERS + 2, 1, 0, 0);
        prints("as many as the size", all.offer(0), "AB");
        Driver eight = transmit();
        for (int k = 0; k < 8; k++) {
            eight.descriptor(k, LETTERS + 1 + k, 1, k < 7 ? NEXT : 0, k + 1);
        }
        prints("eight", eight.offer(0), "ABCDEFGH");
        prints("flags that are not named", transmit().descriptor(0, LETTERS + 1, 1, 0xFFF8, 0).offer(0), "A");
    }

    private static void badNumbers() {
        for (int size : new int[] {2, 4, 8}) {
            for (int number : new int[] {size, size + 1, 255, 256, 32768, 65535}) {
                isBad("head " + number, transmit(size, true).offer(number));
                isBad("next " + number, transmit(size, true).descriptor(1, LETTERS, 1, NEXT, number).offer(1));
            }
            isBad("a ring of one", transmit(size, true).descriptor(1, LETTERS, 1, NEXT, 1).offer(1));
            isBad("a ring of two", transmit(size, true).descriptor(1, LETTERS, 1, NEXT, 0)
                .descriptor(0, LETTERS, 1, NEXT, 1).offer(1));
        }
    }

    private static void badDescriptors() {
        int[][] bad = {{0, 4097}, {1, 4096}, {4095, 2}, {4096, 1}, {-1, 1}, {-1, 0}, {4097, 0}, {-4, 8}, {8192, 4},
            {LETTERS, -1}, {LETTERS, Integer.MIN_VALUE}, {Integer.MAX_VALUE, 1}, {Integer.MIN_VALUE, 0},
            {Integer.MAX_VALUE, Integer.MAX_VALUE}, {100, Integer.MAX_VALUE}};
        for (int[] b : bad) {
            for (int flags : new int[] {0, WRITE}) {
                isBad("buffer " + b[0] + " " + b[1], transmit().descriptor(0, b[0], b[1], flags, 0).offer(0));
                isBad("second buffer", transmit().descriptor(0, LETTERS, 1, NEXT, 1)
                    .descriptor(1, b[0], b[1], flags, 0).offer(0));
                Driver inside = transmit().descriptor(0, TABLE, 16, INDIRECT, 0).offer(0);
                Driver.descriptorAt(inside.m, TABLE, b[0], b[1], flags, 0);
                isBad("in a table", inside);
            }
        }
        for (int word : new int[] {1, -1, 1 << 31}) {
            Driver d = transmit().descriptor(0, LETTERS, 1, 0, 0).offer(0);
            d.m.poke(d.table + 4, word);
            isBad("second word", d);
            Driver empty = transmit().descriptor(0, LETTERS, 0, 0, 0).offer(0);
            empty.m.poke(empty.table + 4, word);
            isBad("second word of an empty one", empty);
            Driver table = transmit().descriptor(0, TABLE, 16, INDIRECT, 0).offer(0);
            table.m.poke(table.table + 4, word);
            isBad("second word of a table", table);
            Driver inside = transmit().descriptor(0, TABLE, 16, INDIRECT, 0).offer(0);
            inside.m.poke(TABLE + 4, word);
            isBad("second word in a table", inside);
        }
    }

    private static void badOrder() {
        for (int first : new int[] {0, 1}) {
            for (int second : new int[] {0, 1}) {
                isBad("read behind write", transmit().descriptor(0, LETTERS, first, NEXT | WRITE, 1)
                    .descriptor(1, LETTERS, second, 0, 0).offer(0));
                Driver behind = transmit().descriptor(0, LETTERS, first, NEXT | WRITE, 1)
                    .descriptor(1, TABLE, 16, INDIRECT, 0).offer(0);
                Driver.descriptorAt(behind.m, TABLE, LETTERS, second, 0, 0);
                isBad("read in a table behind write", behind);
                Driver inside = transmit().descriptor(1, TABLE, 32, INDIRECT, 0).offer(1);
                Driver.descriptorAt(inside.m, TABLE, LETTERS, first, NEXT | WRITE, 1);
                Driver.descriptorAt(inside.m, TABLE + 16, LETTERS, second, 0, 0);
                isBad("read behind write in a table", inside);
            }
        }
        isBad("read, write, read", transmit().descriptor(0, LETTERS, 1, NEXT, 1)
            .descriptor(1, LETTERS, 1, NEXT | WRITE, 2).descriptor(2, LETTERS, 1, 0, 0).offer(0));
        Driver write = transmit().descriptor(0, LETTERS, 1, NEXT | WRITE, 1).descriptor(1, TABLE, 16, INDIRECT, 0);
        Driver.descriptorAt(write.m, TABLE, LETTERS, 1, WRITE, 0);
        prints("a table behind write", write.offer(0), "");
    }

    private static void tables() {
        for (int flags : new int[] {INDIRECT, INDIRECT | WRITE}) {
            Driver alone = transmit().descriptor(5, TABLE, 48, flags, 99).offer(5);
            Driver.descriptorAt(alone.m, TABLE, LETTERS + 1, 1, NEXT, 2);
            Driver.descriptorAt(alone.m, TABLE + 32, LETTERS + 2, 2, NEXT, 1);
            Driver.descriptorAt(alone.m, TABLE + 16, LETTERS + 7, 1, 0, 0);
            prints("a table", alone, "ABCG");
            CHECK.due("head", alone.usedHead(0), 5);
            Driver behind = transmit().descriptor(5, LETTERS + 9, 1, NEXT, 2).descriptor(2, TABLE, 16, flags, 0);
            Driver.descriptorAt(behind.m, TABLE, LETTERS + 1, 1, 0, 0);
            prints("a table behind another", behind.offer(5), "IA");
        }
        Driver full = transmit(2, true).descriptor(0, LETTERS + 1, 1, NEXT, 1).descriptor(1, TABLE, 64, INDIRECT, 0);
        for (int k = 0; k < 4; k++) {
            Driver.descriptorAt(full.m, TABLE + 16 * k, LETTERS + 2 + k, 1, k < 3 ? NEXT : 0, k + 1);
        }
        prints("each counts by itself", full.offer(0), "ABCDE");
    }

    private static void badTables() {
        int[][] places = {{TABLE, 0}, {TABLE, 8}, {TABLE, 17}, {TABLE, 15}, {TABLE, -16}, {TABLE + 8, 16},
            {TABLE + 1, 16}, {4096, 16}, {4080, 32}, {-16, 16}, {-16, 32}, {0, 4112}, {8192, 16},
            {TABLE, Integer.MIN_VALUE}, {Integer.MIN_VALUE, 16}, {0x7FFFFFF0, 0x7FFFFFF0}, {TABLE, 1}};
        for (int[] p : places) {
            isBad("table " + p[0] + " " + p[1], transmit().descriptor(0, p[0], p[1], INDIRECT, 0).offer(0));
        }
        isBad("a table with NEXT", transmit().descriptor(0, TABLE, 16, INDIRECT | NEXT, 1)
            .descriptor(1, LETTERS, 1, 0, 0).offer(0));
        for (int next : new int[] {2, 3, 65535}) {
            Driver d = transmit().descriptor(0, TABLE, 32, INDIRECT, 0).offer(0);
            Driver.descriptorAt(d.m, TABLE, LETTERS, 1, NEXT, next);
            isBad("a number beyond the table", d);
        }
        Driver ring = transmit().descriptor(0, TABLE, 32, INDIRECT, 0).offer(0);
        Driver.descriptorAt(ring.m, TABLE, LETTERS, 1, NEXT, 1);
        Driver.descriptorAt(ring.m, TABLE + 16, LETTERS, 1, NEXT, 0);
        isBad("a ring in a table", ring);
        Driver nested = transmit().descriptor(0, TABLE, 16, INDIRECT, 0).offer(0);
        Driver.descriptorAt(nested.m, TABLE, TABLE + 64, 16, INDIRECT, 0);
        isBad("a table in a table", nested);
        Driver many = transmit(2, true).descriptor(0, LETTERS, 1, NEXT, 0).offer(0);
        isBad("more than the size", many);
        Driver late = transmit(2, true).descriptor(0, LETTERS + 1, 1, NEXT, 1).descriptor(1, LETTERS, 1, NEXT, 2)
            .descriptor(2, TABLE, 16, INDIRECT, 0).offer(0);
        isBad("a table with a number beyond the size", late);
    }

    private static void indirectHasToBeAccepted() {
        isBad("not accepted", transmit(8, false).descriptor(0, TABLE, 16, INDIRECT, 0).offer(0));
        Driver d = transmit(8, false).descriptor(0, TABLE, 16, INDIRECT, 0);
        Driver.descriptorAt(d.m, TABLE, LETTERS + 1, 1, 0, 0);
        d.m.out(Driver.CONSOLE + 36, 0);
        d.m.out(Driver.CONSOLE + 32, 1 << 28);
        prints("accepted later", d.offer(0), "A");
        Driver e = transmit(8, true).descriptor(0, TABLE, 16, INDIRECT, 0);
        e.m.out(Driver.CONSOLE + 32, ~(1 << 28));
        isBad("no longer accepted", e.offer(0));
    }

    private static void tableInTheFirstDescriptorOfRam() {
        Driver d = transmit();
        d.m.out(Driver.CONSOLE + 68, 0);
        d.place(1, 8, 0, d.available, d.used);
        d.m.out(Driver.CONSOLE + 68, 1);
        Driver.descriptorAt(d.m, 0, TABLE, 16, INDIRECT, 0);
        Driver.descriptorAt(d.m, TABLE, LETTERS + 1, 1, 0, 0);
        prints("a table", d.offer(0), "A");
    }

    private static void bothInterrupts() {
        Driver d = transmit().descriptor(0, LETTERS, 1, 0, 0).offer(0).offer(99);
        d.m.run(2);
        CHECK.due("both bits", d.interrupts(), 3);
        d.m.out(Driver.CONSOLE + 100, 1);
        CHECK.due("bit 1 stays", d.interrupts(), 2);
        d.m.out(Driver.CONSOLE + 100, 4 | 1);
        CHECK.due("bit 1 stays", d.interrupts(), 2);
        d.m.out(Driver.CONSOLE + 100, 2);
        CHECK.due("none stays", d.interrupts(), 0);
    }

    private static void bigTables() {
        for (int length : new int[] {4080, 4096}) {
            VirtioMachine m = new VirtioMachine();
            Driver.wake(m, Driver.CONSOLE, true);
            Driver d = new Driver(m, Driver.CONSOLE, 1, 8);
            int last = 0;
            int count = 1;
            for (int k = 1; k < length / 16; k++) {
                boolean liesInRings = 16 * k >= d.table && 16 * k < d.used + 68;
                if (!liesInRings) {
                    m.poke(16 * last + 12, NEXT | k << 16);
                    last = k;
                    count++;
                }
            }
            Driver.descriptorAt(m, 16 * last, 12, 4, 0, 0);
            d.descriptor(7, 0, length, INDIRECT, 0).offer(7);
            m.serve();
            CHECK.due("a table over all of RAM: status", d.status(), 15);
            CHECK.due("printed", m.printed(-1), 4);
            CHECK.due("many descriptors", count > 200, true);
        }
    }

    private static void badChainsDoNothingElse() {
        VirtioMachine m = new VirtioMachine();
        Driver d = Driver.disk(m).descriptor(0, 2048, 16, NEXT, 1).descriptor(1, 2080, 32, NEXT | WRITE, 2)
            .descriptor(2, 2100, 1, NEXT | WRITE, 8).offer(0);
        m.poke(2080, 99);
        int[] rings = ram(m, 1024, 400);
        int[] buffers = ram(m, 2048, 64);
        m.serve();
        CHECK.due("rings are as before", Arrays.equals(rings, ram(m, 1024, 400)), true);
        CHECK.due("buffers are as before", Arrays.equals(buffers, ram(m, 2048, 64)), true);
        CHECK.due("status", d.status(), 79);
        d.descriptor(2, 2100, 1, WRITE, 0);
        m.serve();
        CHECK.due("no longer live", d.usedIndex(), 0);
    }

    private static int[] ram(VirtioMachine m, int from, int bytes) {
        int[] words = new int[bytes / 4];
        for (int k = 0; k < words.length; k++) {
            words[k] = m.peek(from + 4 * k);
        }
        return words;
    }

    private static void onlyLiveDevices() {
        for (int status : new int[] {0, 1, 3, 11, 128 + 15}) {
            VirtioMachine m = new VirtioMachine();
            m.out(Driver.CONSOLE + 36, 1);
            m.out(Driver.CONSOLE + 32, 1);
            Driver d = new Driver(m, Driver.CONSOLE, 1, 8).descriptor(0, LETTERS, 1, 0, 0).offer(0);
            m.out(Driver.CONSOLE + 112, status);
            m.serve();
            CHECK.due("not live with " + status, d.usedIndex(), 0);
        }
        Driver d = transmit().descriptor(0, LETTERS, 1, 0, 0).offer(0);
        d.m.out(Driver.CONSOLE + 68, 0);
        d.m.serve();
        CHECK.due("not ready", d.usedIndex(), 0);
        d.m.out(Driver.CONSOLE + 68, 1);
        d.m.serve();
        CHECK.due("ready", d.usedIndex(), 1);
    }

    private static void usedRing() {
        Driver d = transmit(4, true);
        for (int k = 0; k < 4; k++) {
            d.descriptor(k, LETTERS, 0, 0, 0);
        }
        d.m.poke(d.used, 0x0000ABCD);
        for (int k = 0; k < 11; k++) {
            d.m.poke(d.used + 8 + 8 * (k % 4), -1);
            d.offer(k * 3 % 4);
            d.m.serve();
            CHECK.due("used index", d.usedIndex(), k + 1);
            CHECK.due("used head", d.usedHead(k % 4), k * 3 % 4);
            CHECK.due("used length", d.usedLength(k % 4), 0);
            CHECK.due("used flags", d.m.peek(d.used) & 65535, 0xABCD);
        }
        d.m.serve();
        CHECK.due("nothing waits", d.usedIndex(), 11);
    }

    /** The index is compared with SEEN alone, so 65535 is one that waits, and so on up to 0. */
    private static void indexFarAhead() {
        for (int index : new int[] {1, 2, 9, 32768, 65535}) {
            Driver d = transmit().descriptor(0, LETTERS + 1, 1, 0, 0);
            Driver.setHalf(d.m, d.available + 2, index);
            d.m.serve();
            CHECK.due("far ahead: printed", d.m.printed(-1), 1);
            d.m.serve();
            CHECK.due("far ahead: printed", d.m.printed(-1), index == 1 ? 1 : 2);
        }
    }

    private static void noInterrupt() {
        for (int flags : new int[] {0, 1, 2, 3, 0xFFFE, 0xFFFF}) {
            Driver d = transmit().descriptor(0, LETTERS, 1, 0, 0).offer(0);
            Driver.setHalf(d.m, d.available, flags);
            d.m.serve();
            CHECK.due("used", d.usedIndex(), 1);
            CHECK.due("interrupts with flags " + flags, d.interrupts(), (flags & 1) == 0 ? 1 : 0);
            CHECK.due("pending", d.m.in(4112), (flags & 1) == 0 ? 4 : 0);
            d.offer(99);
            d.m.serve();
            CHECK.due("a bad chain's interrupt", d.interrupts() & 2, 2);
        }
    }

    private static void countsBegin() {
        Driver d = transmit().descriptor(0, LETTERS, 1, 0, 0).offer(0);
        d.m.serve();
        d.m.out(Driver.CONSOLE + 68, 1);
        d.m.serve();
        CHECK.due("it was ready, and does not become it", d.m.printed(-1), 1);
        d.m.out(Driver.CONSOLE + 68, 0);
        d.m.out(Driver.CONSOLE + 68, 1);
        d.m.serve();
        CHECK.due("SEEN is 0 again", d.m.printed(-1), 2);
        CHECK.due("DONE is 0 again", d.usedIndex(), 1);
        d.offer(0);
        d.m.serve();
        CHECK.due("used", d.usedIndex(), 2);
    }

    /** What is written to RAM last is what counts there, and what is read late is read as it then is. */
    private static void lastWriteCounts() {
        VirtioMachine m = new VirtioMachine();
        Driver.wake(m, Driver.CONSOLE, false);
        Driver d = new Driver(m, Driver.CONSOLE, 1, 2);
        m.out(Driver.CONSOLE + 68, 0);
        d.place(1, 2, 1024, 2048, 2044);
        m.out(Driver.CONSOLE + 68, 1);
        d.descriptor(1, LETTERS, 0, 0, 0);
        m.poke(2048, 65536);
        m.poke(2052, 1);
        m.serve();
        CHECK.due("the head lies over the flags: no interrupt", m.in(Driver.CONSOLE + 96), 0);
        CHECK.due("element", m.peek(2048), 1);
        CHECK.due("element", m.peek(2052), 0);
        CHECK.due("used index", m.peek(2044), 65536);
        VirtioMachine n = new VirtioMachine();
        Driver e = Driver.receive(n);
        e.descriptor(0, e.available, 1, WRITE, 0).offer(0);
        n.key(1);
        n.serve();
        CHECK.due("input over the flags: no interrupt", e.interrupts(), 0);
        CHECK.due("used", e.usedIndex(), 1);
    }

    private static void buffersAreFoundFirst() {
        VirtioMachine m = new VirtioMachine();
        Driver d = Driver.receive(m);
        d.descriptor(0, d.table + 16, 16, WRITE | NEXT, 1).descriptor(1, 3000, 4, WRITE, 0).offer(0);
        for (int k = 0; k < 16; k++) {
            m.key(255);
        }
        m.serve();
        CHECK.due("status", d.status(), 15);
        CHECK.due("length", d.usedLength(0), 16);
        VirtioMachine n = new VirtioMachine();
        Driver e = Driver.receive(n);
        e.descriptor(0, e.table + 16, 12, WRITE | NEXT, 1).descriptor(1, 3000, 4, WRITE, 0).offer(0);
        for (int k = 0; k < 16; k++) {
            n.key(200 + k);
        }
        n.serve();
        CHECK.due("the second descriptor as it was", n.peek(3000), 212 | 213 << 8 | 214 << 16 | 215 << 24);
        VirtioMachine o = new VirtioMachine();
        Driver f = Driver.receive(o);
        f.descriptor(3, f.available + 4, 2, WRITE, 0).offer(3);
        o.key(7);
        o.key(0);
        o.serve();
        CHECK.due("the head as it was", f.usedHead(0), 3);
    }

    private static void oneChainInAStep() {
        Driver d = transmit().descriptor(0, LETTERS, 1, 0, 0).offer(0).offer(0).offer(0).offer(0);
        d.m.serve();
        CHECK.due("serve", d.usedIndex(), 1);
        d.m.run(2);
        CHECK.due("run", d.usedIndex(), 3);
        d.m.run(0);
        CHECK.due("run 0", d.usedIndex(), 3);
        d.m.run(101);
        CHECK.due("run refused", d.usedIndex(), 3);
        d.m.run(9);
        CHECK.due("run", d.usedIndex(), 4);
    }
}
