/** What a driver does with a device: bring it up, lay out its rings, put chains into them. */
final class Driver {
    static final int DISK = 8192;
    static final int CONSOLE = 12288;
    static final int NEXT = 1;
    static final int WRITE = 2;
    static final int INDIRECT = 4;

    final VirtioMachine m;
    final int base;
    final int size;
    final int table;
    final int available;
    final int used;
    int index;

    /** A queue with its rings at 1024 + 512 * number, which is made ready. */
    Driver(VirtioMachine m, int base, int number, int size) {
        this.m = m;
        this.base = base;
        this.size = size;
        table = 1024 + 512 * number;
        available = table + 128;
        used = table + 192;
        place(number, size, table, available, used);
        m.out(base + 68, 1);
    }

    void place(int number, int size, int table, int available, int used) {
        m.out(base + 48, number);
        m.out(base + 56, size);
        m.out(base + 128, table);
        m.out(base + 144, available);
        m.out(base + 160, used);
    }

    static void wake(VirtioMachine m, int base, boolean indirect) {
        m.out(base + 112, 1);
        m.out(base + 112, 3);
        m.out(base + 36, 1);
        m.out(base + 32, 1);
        m.out(base + 36, 0);
        m.out(base + 32, indirect ? 1 << 28 : 0);
        m.out(base + 112, 11);
        m.out(base + 112, 15);
    }

    static Driver disk(VirtioMachine m) {
        wake(m, DISK, true);
        return new Driver(m, DISK, 0, 8);
    }

    static Driver receive(VirtioMachine m) {
        wake(m, CONSOLE, true);
        return new Driver(m, CONSOLE, 0, 8);
    }

    static Driver transmit(VirtioMachine m) {
        wake(m, CONSOLE, true);
        return new Driver(m, CONSOLE, 1, 8);
    }

    Driver descriptor(int number, int address, int length, int flags, int next) {
        descriptorAt(m, table + 16 * number, address, length, flags, next);
        return this;
    }

    static void descriptorAt(VirtioMachine m, int at, int address, int length, int flags, int next) {
        m.poke(at, address);
        m.poke(at + 4, 0);
        m.poke(at + 8, length);
        m.poke(at + 12, flags | next << 16);
    }

    /** Makes the chain with this head available. */
    Driver offer(int head) {
        setHalf(m, available + 4 + 2 * (index % size), head);
        index = index + 1 & 65535;
        setHalf(m, available + 2, index);
        return this;
    }

    int status() {
        return m.in(base + 112);
    }

    int interrupts() {
        return m.in(base + 96);
    }

    int usedIndex() {
        return half(m, used + 2);
    }

    int usedHead(int element) {
        return m.peek(used + 4 + 8 * element);
    }

    int usedLength(int element) {
        return m.peek(used + 8 + 8 * element);
    }

    static int half(VirtioMachine m, int address) {
        return m.peek(address & -4) >>> 8 * (address & 2) & 65535;
    }

    static void setHalf(VirtioMachine m, int address, int value) {
        int shift = 8 * (address & 2);
        m.poke(address & -4, m.peek(address & -4) & ~(65535 << shift) | (value & 65535) << shift);
    }

    /** Bytes from a multiple of 4 on, as many as a multiple of 4: fewer calls than one by one. */
    static void setOctets(VirtioMachine m, int address, int... values) {
        for (int k = 0; k < values.length; k += 4) {
            m.poke(address + k, values[k] & 255 | (values[k + 1] & 255) << 8 | (values[k + 2] & 255) << 16
                | values[k + 3] << 24);
        }
    }

    static int[] octets(VirtioMachine m, int address, int count) {
        int[] values = new int[count];
        for (int k = 0; k < count; k++) {
            values[k] = k % 4 == 0 ? m.peek(address + k) : values[k - 1] >>> 8;
        }
        for (int k = 0; k < count; k++) {
            values[k] &= 255;
        }
        return values;
    }

    static int octet(VirtioMachine m, int address) {
        return m.peek(address & -4) >>> 8 * (address & 3) & 255;
    }

    static void setOctet(VirtioMachine m, int address, int value) {
        int shift = 8 * (address & 3);
        m.poke(address & -4, m.peek(address & -4) & ~(255 << shift) | (value & 255) << shift);
    }
}
