/** "Terms", the registers of a device: each sentence that names an edge has a test of its own. */
public final class DeviceEdgesTest {
    private static final Check CHECK = new Check();
    private static final int SELECT = 20;
    private static final int ACCEPTED = 32;
    private static final int ACCEPTED_SELECT = 36;
    private static final int QUEUE = 48;
    private static final int MOST = 52;
    private static final int SIZE = 56;
    private static final int READY = 68;
    private static final int NOTIFY = 80;
    private static final int INTERRUPTS = 96;
    private static final int ACKNOWLEDGE = 100;
    private static final int STATUS = 112;
    private static final int DESCRIPTORS = 128;
    private static final int AVAILABLE = 144;
    private static final int USED = 160;
    private static final int INDIRECT = 1 << 28;
    private static final int BUFFER = 3072;

    public static void main(String[] args) {
        for (int base : new int[] {Driver.DISK, Driver.CONSOLE}) {
            constants(base);
            othersAreReadAsZero(base);
            writtenOnesAreReadAsZero(base);
            writingOthersDoesNothing(base);
            offeredFeatures(base);
            selectForAccepted(base);
            acceptedAtAnyTime(base);
            acceptedIsReplaced(base);
            acceptedKeepsItsSelect(base);
            selectsAreApart(base);
            queueAlone(base);
            placesInAnyOrder(base);
            mostOfAQueue(base);
            noSuchQueue(base);
            queuesOfADevice(base);
            acknowledge(base);
            resetOfStatusAndInterrupts(base);
            resetOfSelects(base);
            resetOfFeatures(base);
            resetOfQueues(base);
            resetOfPlaces(base);
            bitsThatAlwaysComeIn(base);
            featuresOk(base);
            featuresThatAreOffered(base);
            version1(base);
            driverOk(base);
            inThisOrder(base);
            bitsStay(base);
            otherBitsOfStatus(base);
            bit64(base);
            live(base);
            notLiveWith128(base);
            notLiveWith64(base);
            readyByBit0(base);
            readySizes(base);
            readyAlignment(base);
            readyInRam(base);
            readyRefused(base);
            readyWhateverStatusIs(base);
            readyAgain(base);
            writingWhileReady(base);
            writingWhenNoLongerReady(base);
            countsBecomeZero(base);
            notifyDoesNothing(base);
        }
        sectors();
        resetOfOneDevice();
        resetKeepsWhatIsNoRegister();
        CHECK.end();
    }

    private static int lastQueue(int base) {
        return base == Driver.DISK ? 0 : 1;
    }

    private static void accept(VirtioMachine m, int base, int low, int high) {
        m.out(base + ACCEPTED_SELECT, 0);
        m.out(base + ACCEPTED, low);
        m.out(base + ACCEPTED_SELECT, 1);
        m.out(base + ACCEPTED, high);
    }

    /** Brings bits into STATUS; nothing is written for none, which would be a reset. */
    private static void bringIn(VirtioMachine m, int base, int bits) {
        if (bits != 0) {
            m.out(base + STATUS, bits);
        }
    }

    /** A ready queue of a live device with a chain that is fine for the disk and for TRANSMIT; all is at 1024 on. */
    private static Driver withChain(int base, int size) {
        VirtioMachine m = new VirtioMachine();
        Driver.wake(m, base, false);
        return chainFor(new Driver(m, base, lastQueue(base), size));
    }

    private static Driver chainFor(Driver d) {
        d.m.poke(BUFFER, 4);
        return d.descriptor(0, BUFFER, 16, Driver.NEXT, 1).descriptor(1, BUFFER + 32, 1, Driver.WRITE, 0).offer(0);
    }

    private static void constants(int base) {
        CHECK.sentence("0 1953655158, 4 2, 8 the kind (2 disk, 3 console)");
        VirtioMachine m = new VirtioMachine();
        CHECK.due("0", m.in(base), 1953655158);
        CHECK.due("4", m.in(base + 4), 2);
        CHECK.due("8", m.in(base + 8), base == Driver.DISK ? 2 : 3);
    }

    private static boolean isNamed(int offset) {
        for (int named : new int[] {0, 4, 8, 16, 20, 32, 36, 48, 52, 56, 68, 80, 96, 100, 112, 128, 144, 160, 256}) {
            if (named == offset) {
                return true;
            }
        }
        return false;
    }

    private static void othersAreReadAsZero(int base) {
        CHECK.sentence("others, and those that can only be written, are read as 0");
        VirtioMachine m = withChain(base, 4).m;
        m.serve();
        for (int offset = 0; offset <= 256; offset += 4) {
            if (!isNamed(offset)) {
                CHECK.due("offset " + offset, m.in(base + offset), 0);
            }
        }
    }

    private static void writtenOnesAreReadAsZero(int base) {
        CHECK.sentence("those that can only be written, are read as 0");
        VirtioMachine m = new VirtioMachine();
        int[] words = {SELECT, 1, ACCEPTED, 1, ACCEPTED_SELECT, 1, SIZE, 8, NOTIFY, 1, ACKNOWLEDGE, 1,
            DESCRIPTORS, 1024, AVAILABLE, 1024, USED, 1024, QUEUE, 1};
        for (int k = 0; k < words.length; k += 2) {
            m.out(base + words[k], words[k + 1]);
            CHECK.due("offset " + words[k], m.in(base + words[k]), 0);
        }
    }

    private static void writingOthersDoesNothing(int base) {
        CHECK.sentence("writing others does nothing");
        VirtioMachine m = new VirtioMachine();
        for (int offset = 0; offset <= 256; offset += 4) {
            if (!isNamed(offset)) {
                m.out(base + offset, -1);
                CHECK.due("offset " + offset, m.in(base + offset), 0);
            }
        }
        int[] readOnly = {0, 4, 8, 16, MOST, INTERRUPTS, 256};
        for (int offset : readOnly) {
            int before = m.in(base + offset);
            m.out(base + offset, ~before);
            CHECK.due("offset " + offset, m.in(base + offset), before);
        }
        CHECK.due("status", m.in(base + STATUS), 0);
        CHECK.due("ready", m.in(base + READY), 0);
        CHECK.due("pending", m.in(4112), 0);
    }

    private static void offeredFeatures(int base) {
        CHECK.sentence("with SELECT 0 bit 28 (INDIRECT), with 1 bit 0 (VERSION 1), else 0");
        VirtioMachine m = new VirtioMachine();
        CHECK.due("at first", m.in(base + 16), INDIRECT);
        for (int select : new int[] {1, 2, 3, 0, 32, 256, 65536, -1, Integer.MIN_VALUE, Integer.MAX_VALUE, 1}) {
            m.out(base + SELECT, select);
            CHECK.due("with " + select, m.in(base + 16), select == 0 ? INDIRECT : select == 1 ? 1 : 0);
        }
        m.out(base + ACCEPTED_SELECT, 0);
        CHECK.due("the other select is of no meaning", m.in(base + 16), 1);
    }

    private static void selectForAccepted(int base) {
        CHECK.sentence("while it is another word than 0 and 1, 32 does nothing");
        for (int select : new int[] {2, 3, 256, -1, Integer.MIN_VALUE}) {
            VirtioMachine m = new VirtioMachine();
            accept(m, base, 0, 1);
            m.out(base + ACCEPTED_SELECT, select);
            m.out(base + ACCEPTED, 6);
            m.out(base + STATUS, 15);
            CHECK.due("status with select " + select, m.in(base + STATUS), 15);
            VirtioMachine n = new VirtioMachine();
            n.out(base + ACCEPTED_SELECT, select);
            n.out(base + ACCEPTED, 1);
            n.out(base + STATUS, 15);
            CHECK.due("nothing was accepted", n.in(base + STATUS), 3);
        }
        VirtioMachine m = new VirtioMachine();
        m.out(base + ACCEPTED_SELECT, 1);
        m.out(base + SELECT, 0);
        m.out(base + ACCEPTED, 1);
        m.out(base + STATUS, 15);
        CHECK.due("SELECT is of no meaning for it", m.in(base + STATUS), 15);
    }

    private static void acceptedAtAnyTime(int base) {
        CHECK.sentence("what 32 says counts from then on, whatever STATUS is");
        for (int status : new int[] {0, 1, 3, 128}) {
            VirtioMachine m = new VirtioMachine();
            m.out(base + STATUS, status);
            accept(m, base, INDIRECT, 1);
            m.out(base + STATUS, 15);
            CHECK.due("accepted with status " + status, m.in(base + STATUS), status | 15);
        }
        for (boolean late : new boolean[] {false, true}) {
            Driver d = withChain(base, 4);
            d.m.out(base + ACCEPTED_SELECT, 0);
            d.m.out(base + ACCEPTED, late ? INDIRECT : 0);
            Driver.descriptorAt(d.m, 2048, BUFFER, 16, Driver.NEXT, 1);
            Driver.descriptorAt(d.m, 2064, BUFFER + 32, 1, Driver.WRITE, 0);
            d.descriptor(0, 2048, 32, Driver.INDIRECT, 0);
            d.m.serve();
            CHECK.due("a table, accepted when it was live", d.status(), late ? 15 : 79);
        }
    }

    private static void acceptedIsReplaced(int base) {
        CHECK.sentence("32 (written) the features of that word that are ACCEPTED");
        VirtioMachine m = new VirtioMachine();
        accept(m, base, -1, -1);
        accept(m, base, 0, 1);
        m.out(base + STATUS, 15);
        CHECK.due("the last word counts", m.in(base + STATUS), 15);
        accept(m, base, 0, 0);
        CHECK.due("what is in stays in", m.in(base + STATUS), 15);
    }

    private static void acceptedKeepsItsSelect(int base) {
        CHECK.sentence("36 (written) the select for 32");
        VirtioMachine m = new VirtioMachine();
        m.out(base + ACCEPTED_SELECT, 1);
        m.out(base + ACCEPTED, 0);
        m.out(base + ACCEPTED, 1);
        m.out(base + STATUS, 15);
        CHECK.due("both were for word 1", m.in(base + STATUS), 15);
    }

    private static void selectsAreApart(int base) {
        CHECK.sentence("20 (written) SELECT");
        for (int select : new int[] {0, 1, 2}) {
            VirtioMachine m = new VirtioMachine();
            accept(m, base, 0, 1);
            m.out(base + SELECT, select);
            m.out(base + STATUS, 15);
            CHECK.due("what is accepted stays, behind SELECT " + select, m.in(base + STATUS), 15);
        }
    }

    private static void queueAlone(int base) {
        CHECK.sentence("48 (written) QUEUE");
        Driver d = withChain(base, 4).offer(99);
        d.m.run(2);
        for (int number : new int[] {0, 1, 3, -1}) {
            d.m.out(base + QUEUE, number);
            CHECK.due("INTERRUPT STATUS behind " + number, d.interrupts(), 3);
            CHECK.due("STATUS behind it", d.status(), 79);
        }
    }

    private static void placesInAnyOrder(int base) {
        CHECK.sentence("56 (written) SIZE; 68 READY; 128, 144, 160 (written) where the queue's descriptors, AVAILABLE "
            + "and USED rings are");
        int[] offsets = {SIZE, DESCRIPTORS, AVAILABLE, USED};
        int[] words = {4, 1024, 2048, 2560};
        for (int first = 0; first < 4; first++) {
            VirtioMachine m = new VirtioMachine();
            Driver.wake(m, base, false);
            m.out(base + QUEUE, lastQueue(base));
            for (int k = 4; k > 0; k--) {
                m.out(base + offsets[(first + k) % 4], words[(first + k) % 4]);
            }
            m.out(base + READY, 1);
            m.poke(BUFFER, 4);
            Driver.descriptorAt(m, 1024, BUFFER, 16, Driver.NEXT, 1);
            Driver.descriptorAt(m, 1040, BUFFER + 32, 1, Driver.WRITE, 0);
            m.poke(2048, 65536);
            m.serve();
            CHECK.due("the used ring", m.peek(2560), 65536);
            CHECK.due("status", m.in(base + STATUS), 15);
        }
    }

    private static void mostOfAQueue(int base) {
        CHECK.sentence("52 the most: 8, or 0 if there is no such queue");
        VirtioMachine m = new VirtioMachine();
        for (int number : new int[] {-1, 0, 1, 2, 3, 8, 256, 65536, Integer.MIN_VALUE, Integer.MAX_VALUE}) {
            m.out(base + QUEUE, number);
            CHECK.due("queue " + number, m.in(base + MOST), number >= 0 && number <= lastQueue(base) ? 8 : 0);
        }
    }

    private static void noSuchQueue(int base) {
        CHECK.sentence("52, 56, 68, 128, 144 and 160 are of the queue that QUEUE names; no effect, and 0, "
            + "if there is none");
        for (int number : new int[] {lastQueue(base) + 1, 3, -1, Integer.MIN_VALUE}) {
            VirtioMachine m = new VirtioMachine();
            m.out(base + SIZE, 2);
            m.out(base + QUEUE, number);
            m.out(base + SIZE, 3);
            m.out(base + DESCRIPTORS, 1);
            m.out(base + AVAILABLE, 1);
            m.out(base + USED, 1);
            m.out(base + READY, 1);
            CHECK.due("READY", m.in(base + READY), 0);
            m.out(base + QUEUE, 0);
            CHECK.due("READY of queue 0", m.in(base + READY), 0);
            m.out(base + READY, 1);
            CHECK.due("queue 0 is as it was", m.in(base + READY), 1);
            m.out(base + QUEUE, number);
            CHECK.due("READY", m.in(base + READY), 0);
            m.out(base + READY, 0);
            m.out(base + QUEUE, 0);
            CHECK.due("queue 0 is still ready", m.in(base + READY), 1);
        }
    }

    private static void queuesOfADevice(int base) {
        CHECK.sentence("The disk has queue 0, the console 0 (RECEIVE) and 1 (TRANSMIT)");
        VirtioMachine m = new VirtioMachine();
        for (int number = 0; number < 3; number++) {
            m.out(base + QUEUE, number);
            m.out(base + SIZE, 2);
            m.out(base + READY, 1);
            CHECK.due("READY of " + number, m.in(base + READY), number <= lastQueue(base) ? 1 : 0);
        }
        m.out(base + QUEUE, 0);
        m.out(base + READY, 0);
        m.out(base + QUEUE, lastQueue(base));
        CHECK.due("each is by itself", m.in(base + READY), lastQueue(base));
    }

    private static void acknowledge(int base) {
        CHECK.sentence("100 (written): the bits that are 1 become 0 there");
        int[][] cases = {{0, 3}, {1, 2}, {2, 1}, {3, 0}, {4, 3}, {-1, 0}, {-4, 3}, {-3, 2}};
        for (int[] c : cases) {
            Driver d = withChain(base, 4).offer(99);
            d.m.run(2);
            CHECK.due("INTERRUPT STATUS", d.interrupts(), 3);
            d.m.out(base + ACKNOWLEDGE, c[0]);
            CHECK.due("behind " + c[0], d.interrupts(), c[1]);
        }
        VirtioMachine m = new VirtioMachine();
        m.out(base + ACKNOWLEDGE, -1);
        CHECK.due("what is 0 stays 0", m.in(base + INTERRUPTS), 0);
    }

    private static void resetOfStatusAndInterrupts(int base) {
        CHECK.sentence("STATUS, written 0: a RESET: all of the device's registers are as at first (0)");
        Driver d = withChain(base, 4).offer(99);
        d.m.run(2);
        d.m.out(base + STATUS, 128);
        CHECK.due("STATUS", d.status(), 128 + 79);
        d.m.out(base + STATUS, 0);
        CHECK.due("STATUS", d.status(), 0);
        CHECK.due("INTERRUPT STATUS", d.interrupts(), 0);
    }

    private static void resetOfSelects(int base) {
        CHECK.sentence("all of the device's registers are as at first (0)");
        VirtioMachine m = new VirtioMachine();
        m.out(base + SELECT, 1);
        m.out(base + ACCEPTED_SELECT, 1);
        m.out(base + QUEUE, 7);
        m.out(base + STATUS, 0);
        CHECK.due("SELECT", m.in(base + 16), INDIRECT);
        CHECK.due("QUEUE", m.in(base + MOST), 8);
        m.out(base + ACCEPTED, 2);
        m.out(base + ACCEPTED_SELECT, 1);
        m.out(base + ACCEPTED, 1);
        m.out(base + STATUS, 15);
        CHECK.due("the select for 32 was 0: bit 1 of word 0 is not offered", m.in(base + STATUS), 3);
    }

    private static void resetOfFeatures(int base) {
        CHECK.sentence("all of the device's registers are as at first (0)");
        VirtioMachine m = new VirtioMachine();
        accept(m, base, 0, 1);
        m.out(base + STATUS, 0);
        m.out(base + STATUS, 15);
        CHECK.due("VERSION 1 is accepted no more", m.in(base + STATUS), 3);
        VirtioMachine n = new VirtioMachine();
        accept(n, base, 1, 0);
        n.out(base + STATUS, 0);
        n.out(base + ACCEPTED_SELECT, 1);
        n.out(base + ACCEPTED, 1);
        n.out(base + STATUS, 15);
        CHECK.due("word 0 is 0", n.in(base + STATUS), 15);
    }

    private static void resetOfQueues(int base) {
        CHECK.sentence("also its queues");
        VirtioMachine m = new VirtioMachine();
        for (int number = 0; number <= lastQueue(base); number++) {
            m.out(base + QUEUE, number);
            m.out(base + SIZE, 2);
            m.out(base + READY, 1);
        }
        m.out(base + STATUS, 0);
        for (int number = 0; number <= lastQueue(base); number++) {
            m.out(base + QUEUE, number);
            CHECK.due("READY of " + number, m.in(base + READY), 0);
            m.out(base + READY, 1);
            CHECK.due("with size 0", m.in(base + READY), 0);
            m.out(base + SIZE, 4);
            m.out(base + READY, 1);
            CHECK.due("with size 4", m.in(base + READY), 1);
        }
    }

    private static void resetOfPlaces(int base) {
        CHECK.sentence("also its queues");
        for (int offset : new int[] {DESCRIPTORS, AVAILABLE, USED}) {
            VirtioMachine m = new VirtioMachine();
            m.out(base + offset, 1);
            m.out(base + STATUS, 0);
            m.out(base + SIZE, 2);
            m.out(base + READY, 1);
            CHECK.due("the place at " + offset + " is 0 again", m.in(base + READY), 1);
        }
    }

    private static void bitsThatAlwaysComeIn(int base) {
        CHECK.sentence("1, 2, 128 always");
        for (int status : new int[] {1, 2, 3, 128, 129, 130, 131}) {
            VirtioMachine m = new VirtioMachine();
            m.out(base + STATUS, status);
            CHECK.due("written " + status, m.in(base + STATUS), status);
        }
    }

    private static void featuresOk(int base) {
        CHECK.sentence("8 if 1 and 2 are in then");
        for (int before : new int[] {0, 1, 2, 3, 128}) {
            for (int word : new int[] {8, 9, 10, 11}) {
                VirtioMachine m = new VirtioMachine();
                accept(m, base, 0, 1);
                bringIn(m, base, before);
                m.out(base + STATUS, word);
                int in = before | word & 3;
                int want = (in & 3) == 3 ? in | 8 : in;
                CHECK.due(before + ", then " + word, m.in(base + STATUS), want);
            }
        }
    }

    private static int statusWith(int base, int low, int high) {
        VirtioMachine m = new VirtioMachine();
        accept(m, base, low, high);
        m.out(base + STATUS, 11);
        return m.in(base + STATUS);
    }

    private static void featuresThatAreOffered(int base) {
        CHECK.sentence("of the features just such are accepted that are offered");
        CHECK.due("none but VERSION 1", statusWith(base, 0, 1), 11);
        CHECK.due("INDIRECT too", statusWith(base, INDIRECT, 1), 11);
        for (int bit = 0; bit < 32; bit++) {
            CHECK.due("bit " + bit + " of word 0", statusWith(base, 1 << bit, 1), bit == 28 ? 11 : 3);
            CHECK.due("bit " + bit + " of word 1", statusWith(base, 0, 1 | 1 << bit), bit == 0 ? 11 : 3);
            CHECK.due("bit " + bit + " beside INDIRECT", statusWith(base, INDIRECT | 1 << bit, 1), bit == 28 ? 11 : 3);
        }
    }

    private static void version1(int base) {
        CHECK.sentence("VERSION 1 among them");
        CHECK.due("nothing", statusWith(base, 0, 0), 3);
        CHECK.due("INDIRECT alone", statusWith(base, INDIRECT, 0), 3);
        CHECK.due("bit 0 of the wrong word", statusWith(base, 1, 0), 3);
    }

    private static void driverOk(int base) {
        CHECK.sentence("4 if 8 is in then");
        for (int before : new int[] {0, 1, 3, 11}) {
            VirtioMachine m = new VirtioMachine();
            accept(m, base, 0, 1);
            bringIn(m, base, before);
            m.out(base + STATUS, 4);
            CHECK.due(before + ", then 4", m.in(base + STATUS), before == 11 ? 15 : before);
        }
        VirtioMachine m = new VirtioMachine();
        m.out(base + STATUS, 15);
        CHECK.due("8 is refused, so 4 is", m.in(base + STATUS), 3);
    }

    private static void inThisOrder(int base) {
        CHECK.sentence("(in this order)");
        int[][] cases = {{0, 15, 15}, {3, 12, 15}, {1, 14, 15}, {0, 12, 0}, {0, 13, 1}, {0, 14, 2}, {0, 143, 143}};
        for (int[] c : cases) {
            VirtioMachine m = new VirtioMachine();
            accept(m, base, 0, 1);
            bringIn(m, base, c[0]);
            m.out(base + STATUS, c[1]);
            CHECK.due(c[0] + ", then " + c[1], m.in(base + STATUS), c[2]);
        }
    }

    private static void bitsStay(int base) {
        CHECK.sentence("Else each of its bits that is written as 1 comes in");
        VirtioMachine m = new VirtioMachine();
        Driver.wake(m, base, false);
        for (int word : new int[] {1, 2, 4, 8, 16, 256}) {
            m.out(base + STATUS, word);
            CHECK.due("behind " + word, m.in(base + STATUS), 15);
        }
        m.out(base + STATUS, 128);
        CHECK.due("behind 128", m.in(base + STATUS), 143);
        m.out(base + STATUS, 1);
        CHECK.due("behind 1", m.in(base + STATUS), 143);
    }

    private static void otherBitsOfStatus(int base) {
        CHECK.sentence("each of its bits that is written as 1 comes in: 1, 2, 128 always");
        for (int word : new int[] {16, 32, 48, 256, 65536, Integer.MIN_VALUE, -256}) {
            VirtioMachine m = new VirtioMachine();
            m.out(base + STATUS, 3);
            m.out(base + STATUS, word);
            CHECK.due("no other bit, and no reset, by " + word, m.in(base + STATUS), 3);
        }
    }

    private static void bit64(int base) {
        CHECK.sentence("Bit 64 comes of the device alone");
        for (int word : new int[] {64, 67, 79, -1}) {
            VirtioMachine m = new VirtioMachine();
            accept(m, base, 0, 1);
            m.out(base + STATUS, word);
            CHECK.due("written " + word, m.in(base + STATUS) & 64, 0);
        }
        Driver d = withChain(base, 4);
        d.descriptor(0, -1, 1, 0, 0);
        d.m.serve();
        CHECK.due("of the device", d.status(), 79);
        d.m.out(base + STATUS, 15);
        CHECK.due("it stays", d.status(), 79);
    }

    private static void live(int base) {
        CHECK.sentence("The device is LIVE while its status has 1, 2, 4 and 8");
        for (int status : new int[] {0, 1, 2, 3, 11, 15}) {
            VirtioMachine m = new VirtioMachine();
            accept(m, base, 0, 1);
            Driver d = chainFor(new Driver(m, base, lastQueue(base), 4));
            bringIn(m, base, status);
            m.serve();
            CHECK.due("chains done with status " + status, d.usedIndex(), status == 15 ? 1 : 0);
            m.out(base + STATUS, 15);
            m.serve();
            CHECK.due("chains done then", d.usedIndex(), 1);
        }
    }

    private static void notLiveWith128(int base) {
        CHECK.sentence("and neither 64 nor 128");
        Driver d = withChain(base, 4);
        d.m.out(base + STATUS, 128);
        d.m.serve();
        CHECK.due("chains done with 128", d.usedIndex(), 0);
        CHECK.due("interrupts", d.interrupts(), 0);
    }

    private static void notLiveWith64(int base) {
        CHECK.sentence("and neither 64 nor 128");
        Driver d = withChain(base, 4);
        Driver.setHalf(d.m, d.available + 4, 99);
        d.m.serve();
        CHECK.due("status", d.status(), 79);
        Driver.setHalf(d.m, d.available + 4, 0);
        d.m.out(base + ACKNOWLEDGE, 3);
        d.m.serve();
        CHECK.due("chains done with 64", d.usedIndex(), 0);
        CHECK.due("interrupts", d.interrupts(), 0);
    }

    private static void readyByBit0(int base) {
        CHECK.sentence("READY, written with its bit 0");
        VirtioMachine m = new VirtioMachine();
        m.out(base + SIZE, 2);
        int[] words = {0, 2, -2, 1, 3, 2, -1, 256, 257, 1 << 31};
        for (int word : words) {
            m.out(base + READY, word);
            CHECK.due("written " + word, m.in(base + READY), word & 1);
        }
    }

    private static int ready(int base, int size, int descriptors, int available, int used) {
        VirtioMachine m = new VirtioMachine();
        m.out(base + SIZE, size);
        m.out(base + DESCRIPTORS, descriptors);
        m.out(base + AVAILABLE, available);
        m.out(base + USED, used);
        m.out(base + READY, 1);
        return m.in(base + READY);
    }

    private static void readySizes(int base) {
        CHECK.sentence("1 if the size is 2, 4 or 8");
        for (int size = -1; size <= 33; size++) {
            boolean fine = size == 2 || size == 4 || size == 8;
            CHECK.due("size " + size, ready(base, size, 0, 0, 0), fine ? 1 : 0);
        }
        for (int size : new int[] {256, 258, 65538, Integer.MIN_VALUE, Integer.MIN_VALUE + 2, -2, -8}) {
            CHECK.due("size " + size, ready(base, size, 0, 0, 0), 0);
        }
    }

    private static void readyAlignment(int base) {
        CHECK.sentence("the descriptors are at a multiple of 16, the available ring of 2, the used ring of 4");
        for (int k = 0; k <= 16; k++) {
            CHECK.due("descriptors at " + k, ready(base, 4, k, 0, 0), k % 16 == 0 ? 1 : 0);
            CHECK.due("available at " + k, ready(base, 4, 0, k, 0), k % 2 == 0 ? 1 : 0);
            CHECK.due("used at " + k, ready(base, 4, 0, 0, k), k % 4 == 0 ? 1 : 0);
        }
    }

    private static void readyInRam(int base) {
        CHECK.sentence("all three lie in RAM (16 bytes for each descriptor; 4 and 2 for each; 4 and 8 for each)");
        for (int size : new int[] {2, 4, 8}) {
            int descriptors = 4096 - 16 * size;
            int available = 4096 - 4 - 2 * size;
            int used = 4096 - 4 - 8 * size;
            CHECK.due("descriptors at the end", ready(base, size, descriptors, 0, 0), 1);
            CHECK.due("descriptors behind it", ready(base, size, descriptors + 16, 0, 0), 0);
            CHECK.due("available at the end", ready(base, size, 0, available, 0), 1);
            CHECK.due("available behind it", ready(base, size, 0, available + 2, 0), 0);
            CHECK.due("used at the end", ready(base, size, 0, 0, used), 1);
            CHECK.due("used behind it", ready(base, size, 0, 0, used + 4), 0);
            for (int place : new int[] {-16, -2048, 4096, 8192, 0x7FFFFFF0, Integer.MIN_VALUE}) {
                CHECK.due("descriptors at " + place, ready(base, size, place, 0, 0), 0);
                CHECK.due("available at " + place, ready(base, size, 0, place, 0), 0);
                CHECK.due("used at " + place, ready(base, size, 0, 0, place), 0);
            }
        }
    }

    private static void readyRefused(int base) {
        CHECK.sentence("else nothing");
        VirtioMachine m = new VirtioMachine();
        m.out(base + READY, 1);
        CHECK.due("refused with size 0", m.in(base + READY), 0);
        m.out(base + SIZE, 2);
        CHECK.due("it is not ready later by itself", m.in(base + READY), 0);
        m.out(base + DESCRIPTORS, 8);
        m.out(base + READY, 1);
        CHECK.due("refused", m.in(base + READY), 0);
        m.out(base + DESCRIPTORS, 16);
        m.out(base + READY, 1);
        CHECK.due("what was written stays", m.in(base + READY), 1);
        CHECK.due("status", m.in(base + STATUS), 0);
    }

    private static void readyWhateverStatusIs(int base) {
        CHECK.sentence("READY, written with its bit 0: 0, or 1 if the size is 2, 4 or 8");
        for (int status : new int[] {0, 1, 3, 128, 15}) {
            VirtioMachine m = new VirtioMachine();
            accept(m, base, 0, 1);
            bringIn(m, base, status);
            m.out(base + SIZE, 2);
            m.out(base + READY, 1);
            CHECK.due("with status " + status, m.in(base + READY), 1);
            m.out(base + READY, 0);
            CHECK.due("with status " + status, m.in(base + READY), 0);
        }
    }

    private static void readyAgain(int base) {
        CHECK.sentence("else nothing (also if it is ready)");
        Driver d = withChain(base, 4);
        d.m.serve();
        CHECK.due("chains done", d.usedIndex(), 1);
        d.m.out(base + ACKNOWLEDGE, 1);
        d.m.out(base + READY, 1);
        d.m.serve();
        CHECK.due("SEEN is as it was: no chain is done anew", d.interrupts(), 0);
        d.offer(0);
        d.m.serve();
        CHECK.due("DONE is as it was", d.usedIndex(), 2);
    }

    private static void writingWhileReady(int base) {
        CHECK.sentence("While a queue is ready, writing its size and places does nothing");
        for (int offset : new int[] {SIZE, DESCRIPTORS, AVAILABLE, USED}) {
            Driver d = withChain(base, 4);
            d.m.out(base + offset, offset == SIZE ? 2 : 2048);
            for (int k = 0; k < 3; k++) {
                d.offer(0);
            }
            d.m.run(4);
            CHECK.due("chains done", d.usedIndex(), 4);
            CHECK.due("status", d.status(), 15);
            CHECK.due("the last element", d.usedLength(3), base == Driver.DISK ? 1 : 0);
            CHECK.due("nothing lies elsewhere", d.m.peek(2048), 0);
            d.m.out(base + offset, 1);
            d.m.out(base + READY, 0);
            d.m.out(base + READY, 1);
            CHECK.due("what was written is forgotten", d.m.in(base + READY), 1);
        }
    }

    private static void writingWhenNoLongerReady(int base) {
        CHECK.sentence("While a queue is ready, writing its size and places does nothing");
        for (int offset : new int[] {SIZE, DESCRIPTORS, AVAILABLE, USED}) {
            Driver d = withChain(base, 4);
            d.m.out(base + READY, 0);
            d.m.serve();
            CHECK.due("not ready, so no chain waits", d.usedIndex(), 0);
            d.m.out(base + offset, 1);
            d.m.out(base + READY, 1);
            CHECK.due("what was written counts, at " + offset, d.m.in(base + READY), 0);
        }
    }

    private static void countsBecomeZero(int base) {
        CHECK.sentence("When a queue becomes ready its two counts, SEEN and DONE, are 0");
        Driver d = withChain(base, 4).offer(0).offer(0);
        d.m.run(3);
        CHECK.due("chains done", d.usedIndex(), 3);
        d.m.out(base + READY, 0);
        d.m.out(base + READY, 1);
        Driver.setHalf(d.m, d.available + 2, 1);
        Driver.setHalf(d.m, d.available + 4, 0);
        d.m.poke(d.used + 8, -1);
        d.m.run(3);
        CHECK.due("one more, by SEEN 0", d.usedIndex(), 1);
        CHECK.due("the first element, by DONE 0", d.usedLength(0), base == Driver.DISK ? 1 : 0);
    }

    private static void notifyDoesNothing(int base) {
        CHECK.sentence("80 (written) nothing");
        Driver d = withChain(base, 4);
        d.m.out(base + NOTIFY, lastQueue(base));
        CHECK.due("the chain still waits", d.usedIndex(), 0);
        d.m.serve();
        CHECK.due("it needed no notice", d.usedIndex(), 1);
        d.m.out(base + NOTIFY, -1);
        CHECK.due("status", d.status(), 15);
    }

    private static void sectors() {
        CHECK.sentence("256 of the disk: how many sectors: 8");
        VirtioMachine m = new VirtioMachine();
        CHECK.due("of the disk", m.in(8192 + 256), 8);
        CHECK.due("of the console", m.in(12288 + 256), 0);
        m.out(8192 + 256, 9);
        m.out(12288 + 256, 9);
        CHECK.due("of the disk", m.in(8192 + 256), 8);
        CHECK.due("of the console", m.in(12288 + 256), 0);
    }

    private static void resetOfOneDevice() {
        CHECK.sentence("all of the device's registers are as at first");
        for (int base : new int[] {Driver.DISK, Driver.CONSOLE}) {
            int other = Driver.DISK + Driver.CONSOLE - base;
            Driver d = withChain(base, 4);
            d.m.out(other + STATUS, 0);
            CHECK.due("status of the other", d.status(), 15);
            CHECK.due("its queue", d.m.in(base + READY), 1);
            d.m.serve();
            CHECK.due("its chain", d.usedIndex(), 1);
        }
    }

    private static void resetKeepsWhatIsNoRegister() {
        CHECK.sentence("what is pending or in service, the disk's bytes, input and output stay");
        VirtioMachine m = new VirtioMachine();
        m.poke(BUFFER, 1);
        for (int k = 16; k < 48; k += 4) {
            m.poke(BUFFER + k, 0x44434241);
        }
        Driver.disk(m).descriptor(0, BUFFER, 48, Driver.NEXT, 1).descriptor(1, 2048, 1, Driver.WRITE, 0).offer(0);
        Driver.transmit(m).descriptor(0, BUFFER + 16, 5, 0, 0).offer(0);
        m.key(90);
        m.serve();
        m.out(8192 + STATUS, 0);
        m.out(12288 + STATUS, 0);
        CHECK.due("pending", m.in(4112), 6);
        CHECK.due("the disk's first byte", m.disk(0), 0x41);
        CHECK.due("its byte 31", m.disk(31), 0x44);
        CHECK.due("output", m.printed(-1), 5);
        CHECK.due("its last character", m.printed(4), 0x41);
        CHECK.due("input", m.key(91), 2);
    }
}
