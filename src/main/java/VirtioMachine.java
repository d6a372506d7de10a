/** A small computer: a RISC-V core, memory, an interrupt controller, a virtio disk and a virtio console. */
public final class VirtioMachine {
    private static final int MOST_STEPS = 100;

    private final Memory memory;
    private final Disk drive;
    private final Console terminal;
    private final Bus bus;
    private final Core core;

    public VirtioMachine() {
        memory = new Memory();
        Chain chain = new Chain(memory);
        Controller controller = new Controller();
        drive = new Disk(memory, chain);
        terminal = new Console(memory, chain);
        bus = new Bus(memory, controller, drive, terminal);
        core = new Core(memory, controller, bus);
    }

    public boolean poke(int address, int word) {
        if (!isWordOfRam(address)) {
            return false;
        }
        memory.setWord(address, word);
        return true;
    }

    public int peek(int address) throws IllegalArgumentException {
        if (!isWordOfRam(address)) {
            throw new IllegalArgumentException("no word of RAM");
        }
        return memory.word(address);
    }

    public int in(int address) throws IllegalArgumentException, IndexOutOfBoundsException {
        if ((address & 3) != 0) {
            throw new IllegalArgumentException("misaligned");
        }
        if (!bus.reaches(address, 4)) {
            throw new IndexOutOfBoundsException("fault");
        }
        return bus.read(address);
    }

    public void out(int address, int word) throws IllegalArgumentException, IndexOutOfBoundsException {
        if ((address & 3) != 0) {
            throw new IllegalArgumentException("misaligned");
        }
        if (!bus.reaches(address, 4)) {
            throw new IndexOutOfBoundsException("fault");
        }
        bus.write(address, word);
    }

    public int run(int steps) {
        if (steps < 0 || steps > MOST_STEPS) {
            return -1;
        }
        int done = 0;
        for (int i = 0; i < steps; i++) {
            if (core.comesToInstruction() && core.execute()) {
                done++;
            }
            serve();
        }
        return done;
    }

    public void serve() {
        drive.step();
        bus.lookAtDevices();
        terminal.step();
        bus.lookAtDevices();
    }

    public boolean jump(int pc) {
        if ((pc & 3) != 0) {
            return false;
        }
        core.goTo(pc);
        return true;
    }

    public int register(int i) throws IndexOutOfBoundsException {
        if (i < 0 || i > 32) {
            throw new IndexOutOfBoundsException("no such register");
        }
        return i == 32 ? core.pc : core.x[i];
    }

    public int csr(int number) throws IndexOutOfBoundsException {
        if (!Core.hasCsr(number)) {
            throw new IndexOutOfBoundsException("no such CSR");
        }
        return core.csrValue(number);
    }

    public boolean waits() {
        return core.waiting;
    }

    public int key(int c) {
        return terminal.type(c & 255);
    }

    public int printed(int i) throws IndexOutOfBoundsException {
        if (i < -1 || i >= terminal.outputCount) {
            throw new IndexOutOfBoundsException("no such character");
        }
        return i == -1 ? terminal.outputCount : terminal.output[i];
    }

    public int disk(int i) throws IndexOutOfBoundsException {
        if (i < 0 || i >= Disk.BYTES) {
            throw new IndexOutOfBoundsException("no such byte");
        }
        return drive.bytes[i] & 255;
    }

    private boolean isWordOfRam(int address) {
        return (address & 3) == 0 && memory.holds(address, 4);
    }

    /** RAM. It is kept as words, since a quarter as many elements are then made for each machine. */
    private static final class Memory {
        static final int SIZE = 4096;
        // Callers look first whether RAM holds what they name; the mask keeps any index inside all the same.
        private static final int LAST_WORD = SIZE / 4 - 1;

        private final int[] words = new int[SIZE / 4];

        /** No bytes at all also lie right behind the last byte. */
        boolean holds(int address, int length) {
            return address >= 0 && length >= 0 && length <= SIZE && address <= SIZE - length;
        }

        int word(int address) {
            return words[(address >> 2) & LAST_WORD];
        }

        int half(int address) {
            return (words[(address >> 2) & LAST_WORD] >>> ((address & 2) * 8)) & 0xFFFF;
        }

        int octet(int address) {
            return (words[(address >> 2) & LAST_WORD] >>> ((address & 3) * 8)) & 0xFF;
        }

        void setWord(int address, int value) {
            words[(address >> 2) & LAST_WORD] = value;
        }

        void setHalf(int address, int value) {
            int shift = (address & 2) * 8;
            setWord(address, (word(address) & ~(0xFFFF << shift)) | ((value & 0xFFFF) << shift));
        }

        void setOctet(int address, int value) {
            int shift = (address & 3) * 8;
            setWord(address, (word(address) & ~(0xFF << shift)) | ((value & 0xFF) << shift));
        }
    }

    /** The interrupt controller. Sets of sources are kept as words with bit s for source s. */
    private static final class Controller {
        private static final int DISK_PRIORITY = 4;
        private static final int CONSOLE_PRIORITY = 8;
        private static final int PENDING = 16;
        private static final int ENABLED = 20;
        private static final int THRESHOLD = 24;
        private static final int CLAIM = 28;
        private static final int SOURCES = 2;
        private static final int SOURCE_BITS = 6;

        private final int[] priorities = new int[SOURCES + 1];
        private int pending;
        private int inService;
        private int enabled;
        private int threshold;

        static boolean hasRegister(int offset) {
            switch (offset) {
                case DISK_PRIORITY:
                case CONSOLE_PRIORITY:
                case PENDING:
                case ENABLED:
                case THRESHOLD:
                case CLAIM:
                    return true;
                default:
                    return false;
            }
        }

        int read(int offset) {
            switch (offset) {
                case DISK_PRIORITY:
                    return priorities[1];
                case CONSOLE_PRIORITY:
                    return priorities[2];
                case PENDING:
                    return pending;
                case ENABLED:
                    return enabled;
                case THRESHOLD:
                    return threshold;
                case CLAIM:
                    return claim();
                default:
                    return 0;
            }
        }

        void write(int offset, int word) {
            switch (offset) {
                case DISK_PRIORITY:
                    priorities[1] = word & 7;
                    break;
                case CONSOLE_PRIORITY:
                    priorities[2] = word & 7;
                    break;
                case ENABLED:
                    enabled = word & SOURCE_BITS;
                    break;
                case THRESHOLD:
                    threshold = word & 7;
                    break;
                case CLAIM:
                    complete(word);
                    break;
                default:
                    break;
            }
        }

        void look(int source, int interruptStatus) {
            int bit = 1 << source;
            if (interruptStatus != 0 && (inService & bit) == 0) {
                pending |= bit;
            }
        }

        boolean line() {
            return mostUrgentAbove(threshold) != 0;
        }

        private int claim() {
            int source = mostUrgentAbove(0);
            if (source != 0) {
                pending &= ~(1 << source);
                inService |= 1 << source;
            }
            return source;
        }

        private void complete(int source) {
            if (source >= 1 && source <= SOURCES) {
                inService &= ~(1 << source);
            }
        }

        private int mostUrgentAbove(int priority) {
            int urgent = 0;
            int most = priority;
            for (int source = 1; source <= SOURCES; source++) {
                if ((pending & enabled & (1 << source)) != 0 && priorities[source] > most) {
                    urgent = source;
                    most = priorities[source];
                }
            }
            return urgent;
        }
    }

    /** One queue of a device: where its rings are, and how far they were used. */
    private static final class Queue {
        static final int MOST = 8;
        static final int SIZE = 56;
        static final int READY = 68;
        static final int DESCRIPTORS = 128;
        static final int AVAILABLE = 144;
        static final int USED = 160;
        private static final int NO_INTERRUPT = 1;
        private static final int INDEX_BITS = 0xFFFF;

        private final Memory memory;
        private int size;
        private int descriptors;
        private int available;
        private int used;
        private boolean ready;
        private int seen;
        private int done;

        Queue(Memory memory) {
            this.memory = memory;
        }

        void reset() {
            size = 0;
            descriptors = 0;
            available = 0;
            used = 0;
            ready = false;
        }

        void write(int offset, int word) {
            if (offset == READY) {
                if ((word & 1) == 0) {
                    ready = false;
                } else if (!ready && canBeReady()) {
                    ready = true;
                    seen = 0;
                    done = 0;
                }
            } else if (!ready) {
                setPlace(offset, word);
            }
        }

        boolean hasChain() {
            return ready && memory.half(available + 2) != seen;
        }

        int head() {
            return memory.half(available + 4 + 2 * (seen & (size - 1)));
        }

        /** Whether the driver wants an interrupt: asked last, as the used ring may lie over the flags. */
        boolean finish(int head, int length) {
            seen = (seen + 1) & INDEX_BITS;
            int element = used + 4 + 8 * (done & (size - 1));
            memory.setWord(element, head);
            memory.setWord(element + 4, length);
            done = (done + 1) & INDEX_BITS;
            memory.setHalf(used + 2, done);
            return (memory.half(available) & NO_INTERRUPT) == 0;
        }

        private void setPlace(int offset, int word) {
            switch (offset) {
                case SIZE:
                    size = word;
                    break;
                case DESCRIPTORS:
                    descriptors = word;
                    break;
                case AVAILABLE:
                    available = word;
                    break;
                case USED:
                    used = word;
                    break;
                default:
                    break;
            }
        }

        private boolean canBeReady() {
            return (size == 2 || size == 4 || size == 8)
                && (descriptors & 15) == 0 && memory.holds(descriptors, 16 * size)
                && (available & 1) == 0 && memory.holds(available, 4 + 2 * size)
                && (used & 3) == 0 && memory.holds(used, 4 + 8 * size);
        }
    }

    /**
     * The buffers of the chain that a device works on, those that can be read first. The devices work one
     * after the other, so that one object serves both.
     */
    private static final class Chain {
        private static final int NEXT = 1;
        private static final int WRITE = 2;
        private static final int INDIRECT = 4;
        private static final int DESCRIPTOR = 16;
        private static final int END = -1;
        private static final int BAD = -2;
        // A table can fill all of RAM, and fewer descriptors than the queue has can come ahead of it.
        private static final int MOST_BUFFERS = Memory.SIZE / DESCRIPTOR + Queue.MOST;

        private final Memory memory;
        private final int[] addresses = new int[MOST_BUFFERS];
        private final int[] lengths = new int[MOST_BUFFERS];
        private int count;
        private int readers;
        private int readable;
        private int writable;
        private int head;
        private int buffer;
        private int offset;

        Chain(Memory memory) {
            this.memory = memory;
        }

        /** False if the chain is bad. */
        boolean find(Queue queue, boolean indirectAccepted) {
            count = 0;
            readers = 0;
            readable = 0;
            writable = 0;
            head = queue.head();
            int end = walk(queue.descriptors, queue.size, head);
            if (end < 0) {
                return end == END;
            }
            return indirectAccepted && isTable(end)
                && walk(memory.word(end), memory.word(end + 8) / DESCRIPTOR, 0) == END;
        }

        void goToReadable() {
            buffer = 0;
            offset = 0;
        }

        void goToWritable() {
            buffer = readers;
            offset = 0;
        }

        int take() {
            return hasByte() ? memory.octet(addresses[buffer] + offset++) : 0;
        }

        int takeWord() {
            int word = 0;
            for (int shift = 0; shift < 32; shift += 8) {
                word |= take() << shift;
            }
            return word;
        }

        void give(int value) {
            if (hasByte()) {
                memory.setOctet(addresses[buffer] + offset++, value);
            }
        }

        void setLastWritable(int value) {
            for (int i = count - 1; i >= readers; i--) {
                if (lengths[i] > 0) {
                    memory.setOctet(addresses[i] + lengths[i] - 1, value);
                    return;
                }
            }
        }

        /** The address of a descriptor with INDIRECT, where the walk stops, or END or BAD. */
        private int walk(int table, int size, int first) {
            int number = first;
            for (int i = 0; i < size; i++) {
                if (number >= size) {
                    return BAD;
                }
                int at = table + DESCRIPTOR * number;
                int flags = memory.half(at + 12);
                if ((flags & INDIRECT) != 0) {
                    return at;
                }
                if (!add(at, (flags & WRITE) != 0)) {
                    return BAD;
                }
                if ((flags & NEXT) == 0) {
                    return END;
                }
                number = memory.half(at + 14);
            }
            return BAD;
        }

        private boolean isTable(int at) {
            int address = memory.word(at);
            int length = memory.word(at + 8);
            return memory.word(at + 4) == 0
                && (memory.half(at + 12) & NEXT) == 0
                && length != 0 && length % DESCRIPTOR == 0
                && address % DESCRIPTOR == 0
                && memory.holds(address, length);
        }

        private boolean add(int at, boolean write) {
            int address = memory.word(at);
            int length = memory.word(at + 8);
            boolean outOfOrder = !write && count > readers;
            if (outOfOrder || memory.word(at + 4) != 0 || !memory.holds(address, length) || count >= MOST_BUFFERS) {
                return false;
            }
            addresses[count] = address;
            lengths[count] = length;
            count++;
            if (write) {
                writable += length;
            } else {
                readers++;
                readable += length;
            }
            return true;
        }

        private boolean hasByte() {
            while (buffer < count && offset >= lengths[buffer]) {
                buffer++;
                offset = 0;
            }
            return buffer < count;
        }
    }

    /** What the disk and the console have in common: the registers, and what becomes of a chain. */
    private abstract static class Device {
        static final int LAST_REGISTER = 256;
        private static final int MAGIC_NUMBER = 1953655158;
        private static final int DEVICE_VERSION = 2;

        private static final int MAGIC = 0;
        private static final int VERSION = 4;
        private static final int KIND = 8;
        private static final int OFFERED = 16;
        private static final int OFFERED_SELECT = 20;
        private static final int ACCEPTED = 32;
        private static final int ACCEPTED_SELECT = 36;
        private static final int QUEUE = 48;
        private static final int QUEUE_MOST = 52;
        private static final int INTERRUPT_STATUS = 96;
        private static final int INTERRUPT_ACKNOWLEDGE = 100;
        private static final int STATUS = 112;
        private static final int CAPACITY = 256;

        private static final int OFFERED_LOW = 1 << 28;
        private static final int OFFERED_HIGH = 1;

        private static final int ACKNOWLEDGE = 1;
        private static final int DRIVER = 2;
        private static final int DRIVER_OK = 4;
        private static final int FEATURES_OK = 8;
        private static final int NEEDS_RESET = 64;
        private static final int FAILED = 128;
        private static final int ALIVE = ACKNOWLEDGE | DRIVER | DRIVER_OK | FEATURES_OK;

        private static final int USED_A_CHAIN = 1;
        private static final int MET_A_BAD_CHAIN = 2;

        final Chain chain;
        final Queue[] queues;
        private final int kind;
        private final int capacity;
        private int offeredSelect;
        private int acceptedSelect;
        private int acceptedLow;
        private int acceptedHigh;
        private int queueNumber;
        private int interruptStatus;
        private int status;

        Device(int kind, int capacity, int queueCount, Memory memory, Chain chain) {
            this.kind = kind;
            this.capacity = capacity;
            this.chain = chain;
            queues = new Queue[queueCount];
            for (int i = 0; i < queueCount; i++) {
                queues[i] = new Queue(memory);
            }
        }

        /** Does one chain, if one waits. */
        abstract void step();

        int read(int offset) {
            switch (offset) {
                case MAGIC:
                    return MAGIC_NUMBER;
                case VERSION:
                    return DEVICE_VERSION;
                case KIND:
                    return kind;
                case OFFERED:
                    return offered();
                case QUEUE_MOST:
                    return namesQueue() ? Queue.MOST : 0;
                case Queue.READY:
                    return namesQueue() && queues[queueNumber].ready ? 1 : 0;
                case INTERRUPT_STATUS:
                    return interruptStatus;
                case STATUS:
                    return status;
                case CAPACITY:
                    return capacity;
                default:
                    return 0;
            }
        }

        void write(int offset, int word) {
            switch (offset) {
                case OFFERED_SELECT:
                    offeredSelect = word;
                    break;
                case ACCEPTED:
                    accept(word);
                    break;
                case ACCEPTED_SELECT:
                    acceptedSelect = word;
                    break;
                case QUEUE:
                    queueNumber = word;
                    break;
                case INTERRUPT_ACKNOWLEDGE:
                    interruptStatus &= ~word;
                    break;
                case STATUS:
                    setStatus(word);
                    break;
                default:
                    if (namesQueue()) {
                        queues[queueNumber].write(offset, word);
                    }
                    break;
            }
        }

        final boolean hasChain(Queue queue) {
            return (status & (ALIVE | NEEDS_RESET | FAILED)) == ALIVE && queue.hasChain();
        }

        final boolean acceptsIndirect() {
            return (acceptedLow & OFFERED_LOW) != 0;
        }

        final void finish(Queue queue, int length) {
            if (queue.finish(chain.head, length)) {
                interruptStatus |= USED_A_CHAIN;
            }
        }

        final void fail() {
            status |= NEEDS_RESET;
            interruptStatus |= MET_A_BAD_CHAIN;
        }

        private boolean namesQueue() {
            return queueNumber >= 0 && queueNumber < queues.length;
        }

        private int offered() {
            if (offeredSelect == 0) {
                return OFFERED_LOW;
            }
            return offeredSelect == 1 ? OFFERED_HIGH : 0;
        }

        private void accept(int word) {
            if (acceptedSelect == 0) {
                acceptedLow = word;
            } else if (acceptedSelect == 1) {
                acceptedHigh = word;
            }
        }

        private void setStatus(int word) {
            if (word == 0) {
                reset();
                return;
            }
            status |= word & (ACKNOWLEDGE | DRIVER | FAILED);
            if ((status & ACKNOWLEDGE) != 0 && (status & DRIVER) != 0 && agreesOnFeatures()) {
                status |= word & FEATURES_OK;
            }
            if ((status & FEATURES_OK) != 0) {
                status |= word & DRIVER_OK;
            }
        }

        private boolean agreesOnFeatures() {
            return (acceptedLow & ~OFFERED_LOW) == 0 && acceptedHigh == OFFERED_HIGH;
        }

        private void reset() {
            offeredSelect = 0;
            acceptedSelect = 0;
            acceptedLow = 0;
            acceptedHigh = 0;
            queueNumber = 0;
            interruptStatus = 0;
            status = 0;
            for (int i = 0; i < queues.length; i++) {
                queues[i].reset();
            }
        }
    }

    private static final class Disk extends Device {
        private static final int DISK_KIND = 2;
        private static final int SECTORS = 8;
        private static final int SECTOR_BYTES = 32;
        static final int BYTES = SECTORS * SECTOR_BYTES;

        private static final int REQUEST_BYTES = 16;
        private static final int IN = 0;
        private static final int OUT = 1;
        private static final int FLUSH = 4;
        private static final int ID = 8;
        private static final int ID_BYTES = 20;

        private static final int FINE = 0;
        private static final int FAULTY = 1;
        private static final int UNKNOWN = 2;

        private final byte[] bytes = new byte[BYTES];
        private int type;
        private int sector;
        private int last;
        private int filled;

        Disk(Memory memory, Chain chain) {
            super(DISK_KIND, SECTORS, 1, memory, chain);
        }

        void step() {
            Queue queue = queues[0];
            if (!hasChain(queue)) {
                return;
            }
            if (!chain.find(queue, acceptsIndirect()) || chain.readable < REQUEST_BYTES || chain.writable < 1) {
                fail();
                return;
            }
            takeRequest();
            filled = 0;
            chain.setLastWritable(answer());
            finish(queue, filled + 1);
        }

        private void takeRequest() {
            chain.goToReadable();
            type = chain.takeWord();
            chain.takeWord();
            sector = chain.takeWord();
            last = chain.takeWord();
        }

        private int answer() {
            int room = chain.writable - 1;
            int data = chain.readable - REQUEST_BYTES;
            switch (type) {
                case IN:
                    return hasSectors(room) ? fillFromSectors(room) : FAULTY;
                case OUT:
                    return hasSectors(data) ? takeIntoSectors(data) : FAULTY;
                case FLUSH:
                    return FINE;
                case ID:
                    return fillWithId(room < ID_BYTES ? room : ID_BYTES);
                default:
                    return UNKNOWN;
            }
        }

        private boolean hasSectors(int length) {
            return last == 0 && length % SECTOR_BYTES == 0 && length <= BYTES
                && sector >= 0 && sector <= SECTORS - length / SECTOR_BYTES;
        }

        private int fillFromSectors(int length) {
            int from = sector * SECTOR_BYTES;
            chain.goToWritable();
            for (int i = 0; i < length; i++) {
                chain.give(bytes[from + i]);
            }
            filled = length;
            return FINE;
        }

        private int takeIntoSectors(int length) {
            int to = sector * SECTOR_BYTES;
            for (int i = 0; i < length; i++) {
                bytes[to + i] = (byte) chain.take();
            }
            return FINE;
        }

        private int fillWithId(int length) {
            chain.goToWritable();
            for (int i = 0; i < length; i++) {
                chain.give('A' + i);
            }
            filled = length;
            return FINE;
        }
    }

    private static final class Console extends Device {
        private static final int CONSOLE_KIND = 3;
        private static final int RECEIVE = 0;
        private static final int TRANSMIT = 1;
        private static final int MOST_INPUT = 16;
        private static final int MOST_OUTPUT = 120;

        private final int[] input = new int[MOST_INPUT];
        private final int[] output = new int[MOST_OUTPUT];
        private int inputStart;
        private int inputCount;
        private int outputCount;

        Console(Memory memory, Chain chain) {
            super(CONSOLE_KIND, 0, 2, memory, chain);
        }

        void step() {
            if (inputCount > 0 && hasChain(queues[RECEIVE])) {
                receive(queues[RECEIVE]);
            } else if (hasChain(queues[TRANSMIT])) {
                transmit(queues[TRANSMIT]);
            }
        }

        int type(int character) {
            if (inputCount >= MOST_INPUT) {
                return -1;
            }
            input[(inputStart + inputCount) % MOST_INPUT] = character;
            inputCount++;
            return inputCount;
        }

        private void receive(Queue queue) {
            if (!chain.find(queue, acceptsIndirect()) || chain.writable == 0) {
                fail();
                return;
            }
            int length = chain.writable < inputCount ? chain.writable : inputCount;
            chain.goToWritable();
            for (int i = 0; i < length; i++) {
                chain.give(input[inputStart]);
                inputStart = (inputStart + 1) % MOST_INPUT;
            }
            inputCount -= length;
            finish(queue, length);
        }

        private void transmit(Queue queue) {
            if (!chain.find(queue, acceptsIndirect())) {
                fail();
                return;
            }
            int room = MOST_OUTPUT - outputCount;
            int length = chain.readable < room ? chain.readable : room;
            chain.goToReadable();
            for (int i = 0; i < length; i++) {
                output[outputCount] = chain.take();
                outputCount++;
            }
            finish(queue, 0);
        }
    }

    /** What lies at which address. */
    private static final class Bus {
        private static final int PAGE_BITS = 12;
        private static final int OFFSET_BITS = 0xFFF;
        private static final int RAM_PAGE = 0;
        private static final int CONTROLLER_PAGE = 1;
        private static final int DISK_PAGE = 2;
        private static final int CONSOLE_PAGE = 3;
        private static final int DISK_SOURCE = 1;
        private static final int CONSOLE_SOURCE = 2;

        private final Memory memory;
        private final Controller controller;
        private final Device drive;
        private final Device terminal;

        Bus(Memory memory, Controller controller, Device drive, Device terminal) {
            this.memory = memory;
            this.controller = controller;
            this.drive = drive;
            this.terminal = terminal;
        }

        /** False if an access of this size, which is not misaligned, faults. */
        boolean reaches(int address, int size) {
            int offset = address & OFFSET_BITS;
            switch (address >> PAGE_BITS) {
                case RAM_PAGE:
                    return true;
                case CONTROLLER_PAGE:
                    return size == 4 && Controller.hasRegister(offset);
                case DISK_PAGE:
                case CONSOLE_PAGE:
                    return size == 4 && offset <= Device.LAST_REGISTER;
                default:
                    return false;
            }
        }

        int read(int address) {
            int word = 0;
            int offset = address & OFFSET_BITS;
            switch (address >> PAGE_BITS) {
                case RAM_PAGE:
                    word = memory.word(address);
                    break;
                case CONTROLLER_PAGE:
                    word = controller.read(offset);
                    break;
                case DISK_PAGE:
                    word = drive.read(offset);
                    break;
                case CONSOLE_PAGE:
                    word = terminal.read(offset);
                    break;
                default:
                    break;
            }
            lookAtDevices();
            return word;
        }

        void write(int address, int word) {
            int offset = address & OFFSET_BITS;
            switch (address >> PAGE_BITS) {
                case RAM_PAGE:
                    memory.setWord(address, word);
                    break;
                case CONTROLLER_PAGE:
                    controller.write(offset, word);
                    break;
                case DISK_PAGE:
                    drive.write(offset, word);
                    break;
                case CONSOLE_PAGE:
                    terminal.write(offset, word);
                    break;
                default:
                    break;
            }
            lookAtDevices();
        }

        void lookAtDevices() {
            controller.look(DISK_SOURCE, drive.interruptStatus);
            controller.look(CONSOLE_SOURCE, terminal.interruptStatus);
        }
    }

    /** The RISC-V core. What does an instruction answers true, or false if the instruction ended in a trap. */
    private static final class Core {
        private static final int JUMP_MISALIGNED = 0;
        private static final int FETCH_FAULT = 1;
        private static final int ILLEGAL = 2;
        private static final int BREAKPOINT = 3;
        private static final int LOAD_MISALIGNED = 4;
        private static final int LOAD_FAULT = 5;
        private static final int STORE_MISALIGNED = 6;
        private static final int STORE_FAULT = 7;
        private static final int CALL = 11;
        private static final int INTERRUPT = -2147483637;

        private static final int MSTATUS = 768;
        private static final int MIE = 772;
        private static final int MTVEC = 773;
        private static final int MSCRATCH = 832;
        private static final int MEPC = 833;
        private static final int MCAUSE = 834;
        private static final int MIP = 836;
        private static final int INTERRUPTS_ON = 1 << 3;
        private static final int INTERRUPTS_WERE_ON = 1 << 7;
        private static final int EXTERNAL = 1 << 11;

        private static final int OPCODE_BITS = 0x7F;
        private static final int LUI = 0x37;
        private static final int AUIPC = 0x17;
        private static final int JAL = 0x6F;
        private static final int JALR = 0x67;
        private static final int BRANCH = 0x63;
        private static final int LOAD = 0x03;
        private static final int STORE = 0x23;
        private static final int IMMEDIATE_OPERATION = 0x13;
        private static final int OPERATION = 0x33;
        private static final int FENCE = 0x0F;
        private static final int SYSTEM = 0x73;

        private static final int ECALL = 0x00000073;
        private static final int EBREAK = 0x00100073;
        private static final int MRET = 0x30200073;
        private static final int WFI = 0x10500073;

        private static final int OTHER_KIND = 32;
        private static final int MULTIPLY_KIND = 1;
        private static final long UNSIGNED = 0xFFFFFFFFL;

        private final Memory memory;
        private final Controller controller;
        private final Bus bus;
        private final int[] x = new int[32];
        private int pc;
        private int mstatus;
        private int mie;
        private int mtvec;
        private int mscratch;
        private int mepc;
        private int mcause;
        private boolean waiting;

        Core(Memory memory, Controller controller, Bus bus) {
            this.memory = memory;
            this.controller = controller;
            this.bus = bus;
        }

        void goTo(int address) {
            pc = address;
            waiting = false;
        }

        /** The part of a step ahead of the instruction: false if the step has none, as the core waits or traps. */
        boolean comesToInstruction() {
            boolean interrupted = (mie & mip()) != 0;
            if (waiting && !interrupted) {
                return false;
            }
            waiting = false;
            if (interrupted && (mstatus & INTERRUPTS_ON) != 0) {
                return trap(INTERRUPT);
            }
            return memory.holds(pc, 4) || trap(FETCH_FAULT);
        }

        boolean execute() {
            int code = memory.word(pc);
            switch (code & OPCODE_BITS) {
                case LUI:
                    return put(code, code & ~0xFFF);
                case AUIPC:
                    return put(code, pc + (code & ~0xFFF));
                case JAL:
                    return leap(code, pc + leapOffset(code));
                case JALR:
                    return kind(code) == 0 ? leap(code, (first(code) + (code >> 20)) & ~1) : trap(ILLEGAL);
                case BRANCH:
                    return branch(code);
                case LOAD:
                    return load(code);
                case STORE:
                    return store(code);
                case IMMEDIATE_OPERATION:
                    return operateOnImmediate(code);
                case OPERATION:
                    return operate(code);
                case FENCE:
                    return kind(code) == 0 ? goOn() : trap(ILLEGAL);
                case SYSTEM:
                    return kind(code) == 0 ? system(code) : exchange(code);
                default:
                    return trap(ILLEGAL);
            }
        }

        static boolean hasCsr(int number) {
            switch (number) {
                case MSTATUS:
                case MIE:
                case MTVEC:
                case MSCRATCH:
                case MEPC:
                case MCAUSE:
                case MIP:
                    return true;
                default:
                    return false;
            }
        }

        int csrValue(int number) {
            switch (number) {
                case MSTATUS:
                    return mstatus;
                case MIE:
                    return mie;
                case MTVEC:
                    return mtvec;
                case MSCRATCH:
                    return mscratch;
                case MEPC:
                    return mepc;
                case MCAUSE:
                    return mcause;
                case MIP:
                    return mip();
                default:
                    return 0;
            }
        }

        private int mip() {
            return controller.line() ? EXTERNAL : 0;
        }

        /** Always false, so that an instruction can end with it. */
        private boolean trap(int cause) {
            mepc = pc;
            mcause = cause;
            mstatus = (mstatus & INTERRUPTS_ON) != 0 ? INTERRUPTS_WERE_ON : 0;
            pc = mtvec;
            return false;
        }

        private static int kind(int code) {
            return (code >> 12) & 7;
        }

        private int first(int code) {
            return x[(code >> 15) & 31];
        }

        private int second(int code) {
            return x[(code >> 20) & 31];
        }

        private boolean goOn() {
            pc += 4;
            return true;
        }

        private boolean put(int code, int value) {
            setTarget(code, value);
            pc += 4;
            return true;
        }

        private void setTarget(int code, int value) {
            int target = (code >> 7) & 31;
            if (target != 0) {
                x[target] = value;
            }
        }

        private boolean leap(int code, int address) {
            if ((address & 3) != 0) {
                return trap(JUMP_MISALIGNED);
            }
            setTarget(code, pc + 4);
            pc = address;
            return true;
        }

        private static int leapOffset(int code) {
            return ((code >> 31) << 20) | (code & 0xFF000) | ((code >> 9) & 0x800) | ((code >> 20) & 0x7FE);
        }

        private static int branchOffset(int code) {
            return ((code >> 31) << 12) | ((code << 4) & 0x800) | ((code >> 20) & 0x7E0) | ((code >> 7) & 0x1E);
        }

        private boolean branch(int code) {
            int a = first(code);
            int b = second(code);
            boolean taken;
            switch (kind(code) >> 1) {
                case 0:
                    taken = a == b;
                    break;
                case 2:
                    taken = a < b;
                    break;
                case 3:
                    taken = (a & UNSIGNED) < (b & UNSIGNED);
                    break;
                default:
                    return trap(ILLEGAL);
            }
            boolean negated = (kind(code) & 1) != 0;
            if (taken == negated) {
                return goOn();
            }
            int address = pc + branchOffset(code);
            if ((address & 3) != 0) {
                return trap(JUMP_MISALIGNED);
            }
            pc = address;
            return true;
        }

        private boolean load(int code) {
            int kind = kind(code);
            int size = 1 << (kind & 3);
            if (size == 8 || kind > 5) {
                return trap(ILLEGAL);
            }
            int address = first(code) + (code >> 20);
            if ((address & (size - 1)) != 0) {
                return trap(LOAD_MISALIGNED);
            }
            if (!bus.reaches(address, size)) {
                return trap(LOAD_FAULT);
            }
            switch (kind) {
                case 0:
                    return put(code, (byte) memory.octet(address));
                case 1:
                    return put(code, (short) memory.half(address));
                case 4:
                    return put(code, memory.octet(address));
                case 5:
                    return put(code, memory.half(address));
                default:
                    return put(code, bus.read(address));
            }
        }

        private boolean store(int code) {
            int kind = kind(code);
            if (kind > 2) {
                return trap(ILLEGAL);
            }
            int size = 1 << kind;
            int address = first(code) + (((code >> 25) << 5) | ((code >> 7) & 31));
            if ((address & (size - 1)) != 0) {
                return trap(STORE_MISALIGNED);
            }
            if (!bus.reaches(address, size)) {
                return trap(STORE_FAULT);
            }
            if (kind == 0) {
                memory.setOctet(address, second(code));
            } else if (kind == 1) {
                memory.setHalf(address, second(code));
            } else {
                bus.write(address, second(code));
            }
            return goOn();
        }

        private boolean operateOnImmediate(int code) {
            int kind = kind(code);
            int high = code >>> 25;
            boolean other = kind == 5 && high == OTHER_KIND;
            if ((kind == 1 || kind == 5) && high != 0 && !other) {
                return trap(ILLEGAL);
            }
            return put(code, compute(kind, other, first(code), code >> 20));
        }

        private boolean operate(int code) {
            int kind = kind(code);
            int high = code >>> 25;
            if (high == MULTIPLY_KIND) {
                return put(code, multiply(kind, first(code), second(code)));
            }
            boolean other = high == OTHER_KIND && (kind == 0 || kind == 5);
            if (high != 0 && !other) {
                return trap(ILLEGAL);
            }
            return put(code, compute(kind, other, first(code), second(code)));
        }

        /** OTHER makes a subtraction of the addition, and an arithmetic shift to the right of the logical one. */
        private static int compute(int kind, boolean other, int a, int b) {
            switch (kind) {
                case 0:
                    return other ? a - b : a + b;
                case 1:
                    return a << (b & 31);
                case 2:
                    return a < b ? 1 : 0;
                case 3:
                    return (a & UNSIGNED) < (b & UNSIGNED) ? 1 : 0;
                case 4:
                    return a ^ b;
                case 5:
                    return other ? a >> (b & 31) : a >>> (b & 31);
                case 6:
                    return a | b;
                default:
                    return a & b;
            }
        }

        private static int multiply(int kind, int a, int b) {
            switch (kind) {
                case 0:
                    return a * b;
                case 1:
                    return (int) (((long) a * b) >> 32);
                case 2:
                    return (int) ((a * (b & UNSIGNED)) >> 32);
                case 3:
                    return (int) (((a & UNSIGNED) * (b & UNSIGNED)) >> 32);
                case 4:
                    return b == 0 ? -1 : a / b;
                case 5:
                    return b == 0 ? -1 : (int) ((a & UNSIGNED) / (b & UNSIGNED));
                case 6:
                    return b == 0 ? a : a % b;
                default:
                    return b == 0 ? a : (int) ((a & UNSIGNED) % (b & UNSIGNED));
            }
        }

        private boolean system(int code) {
            switch (code) {
                case ECALL:
                    return trap(CALL);
                case EBREAK:
                    return trap(BREAKPOINT);
                case MRET:
                    mstatus = INTERRUPTS_WERE_ON | ((mstatus & INTERRUPTS_WERE_ON) != 0 ? INTERRUPTS_ON : 0);
                    pc = mepc;
                    return true;
                case WFI:
                    waiting = true;
                    return goOn();
                default:
                    return trap(ILLEGAL);
            }
        }

        private boolean exchange(int code) {
            int kind = kind(code);
            int number = code >>> 20;
            if (kind == 4 || !hasCsr(number)) {
                return trap(ILLEGAL);
            }
            int field = (code >> 15) & 31;
            int operand = kind > 4 ? field : x[field];
            int old = csrValue(number);
            // To set or clear nothing writes the old value back, which no CSR here can tell from no write.
            switch (kind & 3) {
                case 1:
                    setCsr(number, operand);
                    break;
                case 2:
                    setCsr(number, old | operand);
                    break;
                default:
                    setCsr(number, old & ~operand);
                    break;
            }
            return put(code, old);
        }

        private void setCsr(int number, int value) {
            switch (number) {
                case MSTATUS:
                    mstatus = value & (INTERRUPTS_ON | INTERRUPTS_WERE_ON);
                    break;
                case MIE:
                    mie = value & EXTERNAL;
                    break;
                case MTVEC:
                    mtvec = value & ~3;
                    break;
                case MSCRATCH:
                    mscratch = value;
                    break;
                case MEPC:
                    mepc = value & ~3;
                    break;
                case MCAUSE:
                    mcause = value;
                    break;
                default:
                    break;
            }
        }
    }
}
