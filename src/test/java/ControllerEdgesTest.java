/** "Terms", the controller: each sentence that names an edge has a test of its own. */
public final class ControllerEdgesTest {
    private static final Check CHECK = new Check();
    private static final int DISK_PRIORITY = 4100;
    private static final int CONSOLE_PRIORITY = 4104;
    private static final int PENDING = 4112;
    private static final int ENABLED = 4116;
    private static final int THRESHOLD = 4120;
    private static final int CLAIM = 4124;
    private static final int DISK = 2;
    private static final int CONSOLE = 4;
    private static final int BOTH = 6;
    private static final int MIP = 836;

    public static void main(String[] args) {
        sources();
        lowestThreeBits();
        prioritiesAreApart();
        pendingCannotBeWritten();
        enabledBits();
        nothingPending();
        nothingEnabled();
        priorityZero();
        greatestPriority();
        equalPriorities();
        claimIsPendingNoMore();
        claimLeavesTheThresholdAside();
        completes();
        completesNoOther();
        completesOneAlone();
        completesByTheClaimAlone();
        completesWhatIsNotInService();
        pendingAfterADevicesStep();
        pendingAfterABusAccess();
        notPendingWhileInService();
        inServiceAcrossAReset();
        staysTillClaimed();
        staysAcrossAReset();
        lineAboveTheThreshold();
        lineOfThePendingAndEnabled();
        lineOfEitherSource();
        allZeroAtFirst();
        otherOffsets();
        CHECK.end();
    }

    /** Devices with a bad chain each, which they have not met yet. */
    private static VirtioMachine bothAboutToFail() {
        VirtioMachine m = new VirtioMachine();
        Driver.disk(m).offer(99);
        Driver.transmit(m).offer(99);
        return m;
    }

    private static VirtioMachine bothPending(int diskPriority, int consolePriority, int enabled) {
        VirtioMachine m = bothAboutToFail();
        m.serve();
        m.out(DISK_PRIORITY, diskPriority);
        m.out(CONSOLE_PRIORITY, consolePriority);
        m.out(ENABLED, enabled);
        return m;
    }

    private static void sources() {
        CHECK.sentence("THE CONTROLLER has the SOURCES 1 (disk) and 2 (console)");
        VirtioMachine disk = new VirtioMachine();
        Driver.disk(disk).offer(99);
        disk.serve();
        CHECK.due("the disk's source", disk.in(PENDING), DISK);
        VirtioMachine console = new VirtioMachine();
        Driver.transmit(console).offer(99);
        console.serve();
        CHECK.due("the console's source", console.in(PENDING), CONSOLE);
    }

    private static void lowestThreeBits() {
        CHECK.sentence("of what is written there, and to the priorities, the lowest three bits count");
        VirtioMachine m = new VirtioMachine();
        for (int address : new int[] {DISK_PRIORITY, CONSOLE_PRIORITY, THRESHOLD}) {
            for (int word : new int[] {0, 1, 7, 8, 9, 15, 16, -1, -8, Integer.MIN_VALUE, Integer.MAX_VALUE}) {
                m.out(address, word);
                CHECK.due("offset " + (address - 4096) + " written " + word, m.in(address), word & 7);
            }
        }
    }

    private static void prioritiesAreApart() {
        CHECK.sentence("4 and 8 the priorities");
        VirtioMachine m = new VirtioMachine();
        int[] addresses = {DISK_PRIORITY, CONSOLE_PRIORITY, THRESHOLD};
        for (int address : addresses) {
            m.out(address, 5);
            for (int other : addresses) {
                CHECK.due("offset " + (other - 4096), m.in(other), other == address ? 5 : 0);
            }
            CHECK.due("enabled", m.in(ENABLED), 0);
            m.out(address, 0);
        }
    }

    private static void pendingCannotBeWritten() {
        CHECK.sentence("16 the pending ones (bit s; writing does nothing)");
        VirtioMachine m = new VirtioMachine();
        m.out(PENDING, -1);
        CHECK.due("none", m.in(PENDING), 0);
        VirtioMachine n = bothPending(1, 1, BOTH);
        n.out(8192 + 100, -1);
        n.out(12288 + 100, -1);
        n.out(PENDING, 0);
        CHECK.due("both", n.in(PENDING), BOTH);
        n.out(PENDING, -1);
        CHECK.due("both", n.in(PENDING), BOTH);
    }

    private static void enabledBits() {
        CHECK.sentence("20 those that are ENABLED (bits 1 and 2)");
        VirtioMachine m = new VirtioMachine();
        for (int bit = 0; bit < 32; bit++) {
            m.out(ENABLED, 1 << bit);
            CHECK.due("written with bit " + bit, m.in(ENABLED), 1 << bit & BOTH);
        }
        m.out(ENABLED, -1);
        CHECK.due("written with all", m.in(ENABLED), BOTH);
        m.out(ENABLED, 0);
        CHECK.due("written with none", m.in(ENABLED), 0);
    }

    private static void nothingPending() {
        CHECK.sentence("its number, or 0");
        VirtioMachine m = new VirtioMachine();
        m.out(DISK_PRIORITY, 7);
        m.out(CONSOLE_PRIORITY, 7);
        m.out(ENABLED, BOTH);
        CHECK.due("claim", m.in(CLAIM), 0);
        CHECK.due("claim again", m.in(CLAIM), 0);
        CHECK.due("pending", m.in(PENDING), 0);
        Driver.disk(m).offer(99);
        m.serve();
        CHECK.due("a claim of nothing puts nothing in service", m.in(CLAIM), 1);
    }

    private static void nothingEnabled() {
        CHECK.sentence("of the pending and enabled sources");
        VirtioMachine m = bothPending(7, 7, 0);
        CHECK.due("claim", m.in(CLAIM), 0);
        CHECK.due("pending", m.in(PENDING), BOTH);
        m.out(ENABLED, CONSOLE);
        CHECK.due("the one that is enabled", m.in(CLAIM), 2);
        CHECK.due("claim again", m.in(CLAIM), 0);
        CHECK.due("pending", m.in(PENDING), DISK);
    }

    private static void priorityZero() {
        CHECK.sentence("with priority above 0");
        VirtioMachine m = bothPending(0, 0, BOTH);
        CHECK.due("claim", m.in(CLAIM), 0);
        CHECK.due("pending", m.in(PENDING), BOTH);
        m.out(CONSOLE_PRIORITY, 1);
        CHECK.due("claim", m.in(CLAIM), 2);
        CHECK.due("claim again", m.in(CLAIM), 0);
        m.out(DISK_PRIORITY, 8);
        CHECK.due("8 counts as 0", m.in(CLAIM), 0);
        m.out(DISK_PRIORITY, 9);
        CHECK.due("9 counts as 1", m.in(CLAIM), 1);
    }

    private static void greatestPriority() {
        CHECK.sentence("the one with the greatest priority");
        for (int disk = 1; disk <= 7; disk++) {
            for (int console = 1; console <= 7; console++) {
                if (disk != console) {
                    VirtioMachine m = bothPending(disk, console, BOTH);
                    CHECK.due("of " + disk + " and " + console, m.in(CLAIM), disk > console ? 1 : 2);
                    CHECK.due("then the other", m.in(CLAIM), disk > console ? 2 : 1);
                    CHECK.due("then none", m.in(CLAIM), 0);
                }
            }
        }
    }

    private static void equalPriorities() {
        CHECK.sentence("of equal ones the first");
        for (int priority = 1; priority <= 7; priority++) {
            VirtioMachine m = bothPending(priority, priority, BOTH);
            CHECK.due("the first", m.in(CLAIM), 1);
            CHECK.due("then the second", m.in(CLAIM), 2);
        }
    }

    private static void claimIsPendingNoMore() {
        CHECK.sentence("it is pending no more, and in service");
        VirtioMachine m = bothPending(1, 2, BOTH);
        m.in(CLAIM);
        CHECK.due("pending", m.in(PENDING), DISK);
        m.serve();
        m.in(8192);
        CHECK.due("in service, so not pending again", m.in(PENDING), DISK);
        m.in(CLAIM);
        CHECK.due("pending", m.in(PENDING), 0);
    }

    private static void claimLeavesTheThresholdAside() {
        CHECK.sentence("of the pending and enabled sources with priority above 0 the one with the greatest priority");
        VirtioMachine m = bothPending(1, 7, BOTH);
        m.out(THRESHOLD, 7);
        CHECK.due("claim", m.in(CLAIM), 2);
        CHECK.due("claim", m.in(CLAIM), 1);
    }

    private static void completes() {
        CHECK.sentence("written: the source with that number is in service no more");
        VirtioMachine m = bothPending(1, 2, BOTH);
        m.in(CLAIM);
        m.in(CLAIM);
        m.out(CLAIM, 1);
        CHECK.due("the disk's is pending anew", m.in(PENDING), DISK);
        m.out(CLAIM, 2);
        CHECK.due("the console's too", m.in(PENDING), BOTH);
    }

    private static void completesNoOther() {
        CHECK.sentence("the source with that number");
        VirtioMachine m = bothPending(1, 2, BOTH);
        m.in(CLAIM);
        m.in(CLAIM);
        for (int number : new int[] {0, 3, 4, 33, 34, 257, -1, -2, Integer.MIN_VALUE, Integer.MAX_VALUE}) {
            m.out(CLAIM, number);
            CHECK.due("both are in service behind " + number, m.in(PENDING), 0);
        }
    }

    private static void completesOneAlone() {
        CHECK.sentence("the source with that number");
        for (int number = 1; number <= 2; number++) {
            VirtioMachine m = bothAboutToFail();
            m.out(CLAIM, number);
            m.serve();
            CHECK.due("no source is in service", m.in(PENDING), BOTH);
        }
    }

    private static void completesByTheClaimAlone() {
        CHECK.sentence("28 read, the CLAIM");
        VirtioMachine m = bothPending(1, 2, BOTH);
        m.in(CLAIM);
        m.in(CLAIM);
        for (int number = 1; number <= 2; number++) {
            for (int address : new int[] {DISK_PRIORITY, CONSOLE_PRIORITY, PENDING, ENABLED, THRESHOLD}) {
                m.out(address, number);
                CHECK.due("both are in service behind " + address, m.in(PENDING), 0);
            }
        }
    }

    private static void completesWhatIsNotInService() {
        CHECK.sentence("is in service no more");
        VirtioMachine m = bothPending(1, 1, BOTH);
        m.out(CLAIM, 1);
        m.out(CLAIM, 2);
        CHECK.due("pending", m.in(PENDING), BOTH);
        CHECK.due("claim", m.in(CLAIM), 1);
        m.out(CLAIM, 2);
        CHECK.due("the disk's is still in service", m.in(PENDING), CONSOLE);
    }

    private static void pendingAfterADevicesStep() {
        CHECK.sentence("looked at after each step of a device, each bus access and each reset");
        VirtioMachine m = bothAboutToFail();
        m.out(DISK_PRIORITY, 1);
        m.out(ENABLED, DISK);
        CHECK.due("MIP", m.csr(MIP), 0);
        m.serve();
        CHECK.due("MIP, with no access between", m.csr(MIP), 0x800);
        VirtioMachine n = bothAboutToFail();
        n.out(CONSOLE_PRIORITY, 1);
        n.out(ENABLED, CONSOLE);
        n.run(1);
        CHECK.due("MIP, with no access between", n.csr(MIP), 0x800);
    }

    private static void pendingAfterABusAccess() {
        CHECK.sentence("A source is pending as soon as its device's INTERRUPT STATUS is not 0 "
            + "and it is not in service");
        VirtioMachine m = bothPending(1, 0, BOTH);
        CHECK.due("claim", m.in(CLAIM), 1);
        CHECK.due("MIP", m.csr(MIP), 0);
        m.out(CLAIM, 1);
        CHECK.due("MIP, as soon as it is in service no more", m.csr(MIP), 0x800);
        CHECK.due("claim", m.in(CLAIM), 1);
        m.out(8192 + 100, 2);
        m.out(CLAIM, 1);
        CHECK.due("MIP, with INTERRUPT STATUS 0", m.csr(MIP), 0);
        CHECK.due("pending", m.in(PENDING), CONSOLE);
    }

    private static void notPendingWhileInService() {
        CHECK.sentence("and it is not in service");
        VirtioMachine m = new VirtioMachine();
        Driver d = Driver.transmit(m).descriptor(0, 3072, 1, 0, 0).offer(0);
        m.out(CONSOLE_PRIORITY, 1);
        m.out(ENABLED, CONSOLE);
        m.serve();
        CHECK.due("claim", m.in(CLAIM), 2);
        m.out(12288 + 100, 1);
        d.offer(0);
        m.serve();
        CHECK.due("INTERRUPT STATUS", d.interrupts(), 1);
        CHECK.due("pending, while it is in service", m.in(PENDING), 0);
        CHECK.due("claim", m.in(CLAIM), 0);
        m.out(CLAIM, 2);
        CHECK.due("pending", m.in(PENDING), CONSOLE);
    }

    private static void inServiceAcrossAReset() {
        CHECK.sentence("what is pending or in service, the disk's bytes, input and output stay");
        VirtioMachine m = bothPending(1, 1, BOTH);
        m.in(CLAIM);
        m.in(CLAIM);
        m.out(8192 + 112, 0);
        Driver.disk(m).offer(99);
        m.serve();
        CHECK.due("the disk has an interrupt", m.in(8192 + 96), 2);
        CHECK.due("it is still in service", m.in(PENDING), 0);
        m.out(CLAIM, 1);
        CHECK.due("pending", m.in(PENDING), DISK);
    }

    private static void staysTillClaimed() {
        CHECK.sentence("and stays so till it is claimed, whatever becomes of the INTERRUPT STATUS");
        VirtioMachine m = bothPending(1, 2, BOTH);
        m.out(8192 + 100, -1);
        m.out(12288 + 100, -1);
        CHECK.due("INTERRUPT STATUS", m.in(8192 + 96) + m.in(12288 + 96), 0);
        m.serve();
        CHECK.due("pending", m.in(PENDING), BOTH);
        CHECK.due("MIP", m.csr(MIP), 0x800);
        m.out(CLAIM, 1);
        m.out(CLAIM, 2);
        CHECK.due("pending", m.in(PENDING), BOTH);
        CHECK.due("claim", m.in(CLAIM), 2);
        CHECK.due("claim", m.in(CLAIM), 1);
        m.out(CLAIM, 1);
        m.out(CLAIM, 2);
        CHECK.due("pending", m.in(PENDING), 0);
    }

    private static void staysAcrossAReset() {
        CHECK.sentence("what is pending or in service");
        VirtioMachine m = bothPending(1, 2, BOTH);
        m.out(8192 + 112, 0);
        m.out(12288 + 112, 0);
        CHECK.due("pending", m.in(PENDING), BOTH);
        CHECK.due("the controller's own numbers", m.in(DISK_PRIORITY) + m.in(CONSOLE_PRIORITY) + m.in(ENABLED), 9);
        CHECK.due("claim", m.in(CLAIM), 2);
    }

    private static void lineAboveTheThreshold() {
        CHECK.sentence("Its LINE (MIP) is 1 while a pending and enabled source has a priority above the threshold");
        VirtioMachine m = bothPending(0, 0, DISK);
        for (int priority = 0; priority <= 7; priority++) {
            m.out(DISK_PRIORITY, priority);
            for (int threshold = 0; threshold <= 7; threshold++) {
                m.out(THRESHOLD, threshold);
                int line = priority > threshold ? 0x800 : 0;
                CHECK.due("priority " + priority + ", threshold " + threshold, m.csr(MIP), line);
            }
        }
        m.out(THRESHOLD, 8);
        CHECK.due("8 counts as 0", m.csr(MIP), 0x800);
    }

    private static void lineOfThePendingAndEnabled() {
        CHECK.sentence("a pending and enabled source");
        VirtioMachine none = new VirtioMachine();
        none.out(DISK_PRIORITY, 7);
        none.out(ENABLED, BOTH);
        CHECK.due("none pending", none.csr(MIP), 0);
        VirtioMachine m = bothPending(7, 0, CONSOLE);
        CHECK.due("none enabled that has a priority", m.csr(MIP), 0);
        m.out(ENABLED, BOTH);
        CHECK.due("enabled", m.csr(MIP), 0x800);
        m.in(CLAIM);
        CHECK.due("claimed", m.csr(MIP), 0);
    }

    private static void lineOfEitherSource() {
        CHECK.sentence("a pending and enabled source has a priority above the threshold");
        VirtioMachine m = bothPending(2, 3, BOTH);
        m.out(THRESHOLD, 2);
        CHECK.due("the console's", m.csr(MIP), 0x800);
        m.out(DISK_PRIORITY, 3);
        m.out(CONSOLE_PRIORITY, 2);
        CHECK.due("the disk's", m.csr(MIP), 0x800);
        CHECK.due("claim", m.in(CLAIM), 1);
        CHECK.due("the console's is not above", m.csr(MIP), 0);
        m.out(THRESHOLD, 1);
        CHECK.due("the console's", m.csr(MIP), 0x800);
    }

    private static void allZeroAtFirst() {
        CHECK.sentence("All numbers are 0 at first");
        VirtioMachine m = new VirtioMachine();
        for (int address : new int[] {DISK_PRIORITY, CONSOLE_PRIORITY, PENDING, ENABLED, THRESHOLD, CLAIM}) {
            CHECK.due("offset " + (address - 4096), m.in(address), 0);
        }
    }

    private static void otherOffsets() {
        CHECK.sentence("Its other offsets are a fault");
        for (int from = 0; from < 4096; from += 512) {
            VirtioMachine m = new VirtioMachine();
            for (int k = from; k < from + 512; k += 4) {
                int offset = k;
                boolean named = k == 4 || k == 8 || k == 16 || k == 20 || k == 24 || k == 28;
                CHECK.due("in at " + k, Check.thrownBy(() -> m.in(4096 + offset)), named ? 0 : 2);
                CHECK.due("out at " + k, Check.thrownBy(() -> m.out(4096 + offset, 1)), named ? 0 : 2);
            }
        }
        VirtioMachine m = new VirtioMachine();
        for (int offset : new int[] {0, 12, 32, 4092}) {
            CHECK.due("load at " + offset, Asm.doesWith(m, 4096 + offset, Asm.load(2, 4, 3, 0)), 5);
            CHECK.due("store at " + offset, Asm.doesWith(m, 4096 + offset, Asm.store(2, 4, 3, 0)), 7);
        }
    }
}
