/** Promises 4 and 5: the registers of the interrupt controller. */
public final class ControllerTest {
    private static final Check CHECK = new Check();
    private static final int PENDING = 4112;
    private static final int ENABLED = 4116;
    private static final int THRESHOLD = 4120;
    private static final int CLAIM = 4124;

    public static void main(String[] args) {
        numbers();
        claimOrder();
        claimConditions();
        line();
        inService();
        staysPending();
        loadsClaim();
        CHECK.end();
    }

    /** Both devices meet a bad chain, so that both sources are pending. */
    private static VirtioMachine bothPending() {
        VirtioMachine m = new VirtioMachine();
        Driver.disk(m).offer(99);
        Driver.wake(m, Driver.CONSOLE, false);
        new Driver(m, Driver.CONSOLE, 1, 8).offer(99);
        m.serve();
        return m;
    }

    private static void numbers() {
        VirtioMachine m = new VirtioMachine();
        for (int a : new int[] {4100, 4104, THRESHOLD}) {
            m.out(a, 5);
            CHECK.due("in " + a, m.in(a), 5);
            m.out(a, -2);
            CHECK.due("lowest three bits of " + a, m.in(a), 6);
            m.out(a, 8);
            CHECK.due("lowest three bits of " + a, m.in(a), 0);
        }
        m.out(ENABLED, -1);
        CHECK.due("enabled", m.in(ENABLED), 6);
        m.out(ENABLED, 4);
        CHECK.due("enabled", m.in(ENABLED), 4);
        m.out(PENDING, -1);
        CHECK.due("pending", m.in(PENDING), 0);
        m.out(4100, 1);
        m.out(4104, 2);
        CHECK.due("each its own priority", m.in(4100) * 10 + m.in(4104), 12);
    }

    private static void claimOrder() {
        int[][] cases = {{1, 1, 1, 2}, {1, 2, 2, 1}, {7, 6, 1, 2}, {7, 7, 1, 2}, {0, 1, 2, 0}, {1, 0, 1, 0},
            {0, 0, 0, 0}};
        for (int[] c : cases) {
            VirtioMachine m = bothPending();
            CHECK.due("pending", m.in(PENDING), 6);
            m.out(ENABLED, 6);
            m.out(4100, c[0]);
            m.out(4104, c[1]);
            CHECK.due("claim", m.in(CLAIM), c[2]);
            CHECK.due("pending", m.in(PENDING), 6 & ~(c[2] == 0 ? 0 : 1 << c[2]));
            CHECK.due("claim again", m.in(CLAIM), c[3]);
            CHECK.due("claim a third time", m.in(CLAIM), 0);
        }
    }

    private static void claimConditions() {
        VirtioMachine m = bothPending();
        m.out(4100, 7);
        m.out(4104, 1);
        CHECK.due("none is enabled", m.in(CLAIM), 0);
        m.out(ENABLED, 4);
        m.out(THRESHOLD, 7);
        CHECK.due("the threshold is of no meaning for claims", m.in(CLAIM), 2);
        CHECK.due("the other one is not enabled", m.in(CLAIM), 0);
        m.out(PENDING, 0);
        CHECK.due("pending", m.in(PENDING), 2);
    }

    private static void line() {
        VirtioMachine m = bothPending();
        m.out(ENABLED, 6);
        CHECK.due("priorities 0", m.csr(836), 0);
        m.out(4104, 3);
        CHECK.due("3 above 0", m.csr(836), 2048);
        m.out(THRESHOLD, 2);
        CHECK.due("3 above 2", m.csr(836), 2048);
        m.out(THRESHOLD, 3);
        CHECK.due("3 not above 3", m.csr(836), 0);
        m.out(4100, 4);
        CHECK.due("4 above 3", m.csr(836), 2048);
        m.out(ENABLED, 4);
        CHECK.due("not enabled", m.csr(836), 0);
        m.out(ENABLED, 2);
        CHECK.due("enabled", m.csr(836), 2048);
        CHECK.due("claim", m.in(CLAIM), 1);
        CHECK.due("claimed", m.csr(836), 0);
    }

    private static void inService() {
        VirtioMachine m = bothPending();
        m.out(ENABLED, 6);
        m.out(4100, 1);
        CHECK.due("claim", m.in(CLAIM), 1);
        for (int number : new int[] {0, 2, 3, -1, 33, 257}) {
            m.out(CLAIM, number);
            CHECK.due("still in service after " + number, m.in(PENDING), 4);
        }
        m.out(CLAIM, 1);
        CHECK.due("pending again, as the status is not 0", m.in(PENDING), 6);
        CHECK.due("claim", m.in(CLAIM), 1);
        m.out(8292, 2);
        m.out(CLAIM, 1);
        CHECK.due("not pending, as the status is 0", m.in(PENDING), 4);
    }

    private static void staysPending() {
        VirtioMachine m = bothPending();
        m.out(8292, -1);
        CHECK.due("status", m.in(8288), 0);
        m.out(12400, 0);
        CHECK.due("status", m.in(12384), 0);
        CHECK.due("both stay pending", m.in(PENDING), 6);
        m.out(ENABLED, 6);
        m.out(4104, 1);
        CHECK.due("claim", m.in(CLAIM), 2);
        m.out(CLAIM, 2);
        CHECK.due("pending", m.in(PENDING), 2);
        VirtioMachine n = bothPending();
        n.out(ENABLED, 6);
        n.out(4100, 1);
        n.in(CLAIM);
        n.out(8304, 0);
        Driver.disk(n).offer(99);
        n.serve();
        CHECK.due("in service also behind a reset", n.in(PENDING), 4);
        n.out(CLAIM, 1);
        CHECK.due("pending when served", n.in(PENDING), 6);
    }

    private static void loadsClaim() {
        VirtioMachine m = bothPending();
        m.out(ENABLED, 6);
        m.out(4100, 1);
        m.out(4104, 2);
        Asm.set(m, 1, 4096, 0);
        Asm.put(m, 0, Asm.load(2, 2, 1, 28), Asm.load(2, 0, 1, 28), Asm.store(2, 2, 1, 28), Asm.load(2, 3, 1, 16));
        CHECK.due("run", m.run(4), 4);
        CHECK.due("claimed", m.register(2), 2);
        CHECK.due("pending: the load into x0 claims too", m.register(3), 4);
    }
}
