/**
 * Loads and stores that are done out of their order, before one memory with a device's part and a
 * small buffer of stores that left. The promises are those of DOC.md.
 */
public final class LoadStoreRows {
    public static final int NONE = -1;

    private static final int LOAD = 0;
    private static final int STORE = 1;
    private static final int FENCE = 2;
    private static final int EXCHANGE = 3;

    private static final int MEMORY_BYTES = 4096;
    private static final int DEVICE_START = 3072;
    private static final int MOST_WAITING = 32;
    private static final int BUFFER_ROOM = 4;
    private static final int MOST_OP_BYTES = 4;
    private static final int LOADED_KEPT_FOR = 64;
    private static final int MARK_MASK = 63;

    private static final int TRY_DONE = 1;
    private static final int TRY_HELD_BACK = 2;
    private static final int TRY_MARKED = 3;
    private static final int TRY_NO_NUMBER = 4;

    // Both lie below every op's number, so that any store counts as newer than them.
    private static final int FROM_MEMORY = -1;
    private static final int FROM_BUFFER = -2;

    private final OpRows ops = new OpRows();
    private final StoreBuffer buffer = new StoreBuffer();
    private final ByteMemory mainMemory = new ByteMemory();

    private int nextOp = 0;
    private int oldestWaiting = 0;
    private long marks = 0L;
    private int undoneSoFar = 0;
    private int wrongSoFar = 0;
    private int bytesFromStores = 0;
    private int bytesFromElsewhere = 0;

    public LoadStoreRows() {
    }

    public int op(int kind, int bytes, int program)
            throws IllegalArgumentException, UnsupportedOperationException {
        if (!isKindWithBytes(kind, bytes)) {
            throw new IllegalArgumentException("no such kind, or not with so many bytes");
        }
        if (waitingOps() >= MOST_WAITING) {
            throw new UnsupportedOperationException("32 ops wait");
        }
        int op = nextOp;
        ops.begin(op, kind, bytes, program);
        nextOp = op + 1;
        return op;
    }

    public int address(int op, int at) throws IndexOutOfBoundsException, IllegalArgumentException {
        requireOp(op);
        if (!waits(op) || ops.kindOf(op) == FENCE || ops.hasAddress(op)) {
            throw new IllegalArgumentException("no op that waits for an address");
        }
        if (!canBeAddress(at, ops.bytesOf(op))) {
            throw new IllegalArgumentException("can not be its address");
        }
        ops.setAddress(op, at);
        if (ops.kindOf(op) != STORE) {
            return 0;
        }
        int load = oldestLoadPast(op);
        if (load == NONE) {
            return 0;
        }
        mark(ops.programOf(load));
        return undoWrong(load);
    }

    public int number(int op, int v) throws IndexOutOfBoundsException, IllegalArgumentException {
        requireOp(op);
        if (!waits(op) || !takesNumber(ops.kindOf(op)) || ops.hasNumber(op)) {
            throw new IllegalArgumentException("no op that waits for a number");
        }
        ops.setNumber(op, v);
        return ops.bytesOf(op);
    }

    public int tried(int op) throws IndexOutOfBoundsException, IllegalArgumentException {
        requireOp(op);
        if (!waits(op) || ops.kindOf(op) != LOAD || !ops.hasAddress(op) || ops.isDone(op)) {
            throw new IllegalArgumentException("no load that can be tried");
        }
        if (isHeldBack(op)) {
            return TRY_HELD_BACK;
        }
        if (marked(ops.programOf(op)) && storeWithoutAddressBefore(op)) {
            return TRY_MARKED;
        }
        if (storeWithoutNumberFor(op)) {
            return TRY_NO_NUMBER;
        }
        doLoad(op);
        return TRY_DONE;
    }

    public int loaded(int op)
            throws IndexOutOfBoundsException, IllegalArgumentException, IllegalStateException {
        requireOp(op);
        if (nextOp - 1 - op >= LOADED_KEPT_FOR) {
            throw new IllegalStateException("64 ops or more came behind it");
        }
        if (!hasLoaded(op)) {
            throw new IllegalArgumentException("nothing was loaded by it");
        }
        return ops.loadedBy(op);
    }

    public int source(int op, int k)
            throws IndexOutOfBoundsException, IllegalArgumentException, IllegalStateException {
        requireOp(op);
        if (!waits(op) || !ops.isDone(op)) {
            throw new IllegalArgumentException("no load that is done and waits");
        }
        if (k < 0 || k >= ops.bytesOf(op)) {
            throw new IllegalStateException("no such byte of it");
        }
        int from = ops.sourceOf(op, k);
        return from >= 0 ? from : NONE;
    }

    public int leave() {
        if (waitingOps() <= 0 || !mayLeave(oldestWaiting)) {
            return NONE;
        }
        int op = oldestWaiting;
        carryOut(op);
        oldestWaiting = op + 1;
        return op;
    }

    public int drain() {
        if (buffer.isEmpty()) {
            return NONE;
        }
        int store = buffer.oldestStore();
        buffer.moveOldestTo(mainMemory);
        return store;
    }

    public int other(int at, int v) throws IllegalArgumentException {
        if (!isMemoryByte(at) || v < 0 || v > 255) {
            throw new IllegalArgumentException("no such byte, or no byte's number");
        }
        mainMemory.setByte(at, v);
        int load = oldestLoadFromMemory(at);
        return load == NONE ? 0 : undoWrong(load);
    }

    public int memory(int at) throws IllegalArgumentException {
        if (!isMemoryByte(at)) {
            throw new IllegalArgumentException("no such byte");
        }
        return mainMemory.byteAt(at);
    }

    public int forget(int op) throws IndexOutOfBoundsException, IllegalArgumentException {
        requireOp(op);
        if (!waits(op)) {
            throw new IllegalArgumentException("it does not wait");
        }
        int gone = nextOp - op;
        nextOp = op;
        return gone;
    }

    public boolean marked(int program) {
        return ((marks >>> (program & MARK_MASK)) & 1L) != 0L;
    }

    public int count(int what) {
        switch (what) {
            case 0:
                return nextOp;
            case 1:
                return waitingOps();
            case 2:
                return buffer.size();
            case 3:
                return loadsDoneThatWait();
            case 4:
                return undoneSoFar;
            case 5:
                return wrongSoFar;
            case 6:
                return bytesFromStores;
            case 7:
                return bytesFromElsewhere;
            case 8:
                return Long.bitCount(marks);
            case 9:
                return waitingOps() > 0 ? oldestWaiting : NONE;
            default:
                return NONE;
        }
    }

    private static boolean isKindWithBytes(int kind, int bytes) {
        if (kind == FENCE) {
            return bytes == 0;
        }
        return kind >= LOAD && kind <= EXCHANGE && (bytes == 1 || bytes == 2 || bytes == 4);
    }

    private static boolean takesNumber(int kind) {
        return kind == STORE || kind == EXCHANGE;
    }

    private static boolean isMemoryByte(int at) {
        return at >= 0 && at < MEMORY_BYTES;
    }

    private static boolean isDevice(int at) {
        return at >= DEVICE_START;
    }

    private static boolean canBeAddress(int at, int bytes) {
        if (at < 0 || at > MEMORY_BYTES - bytes) {
            return false;
        }
        return isDevice(at) || at + bytes <= DEVICE_START;
    }

    private static int byteOfNumber(int number, int bytes, int k) {
        return (number >>> (8 * (bytes - 1 - k))) & 255;
    }

    private void requireOp(int op) {
        if (op < 0 || op >= nextOp) {
            throw new IndexOutOfBoundsException("no op with that number");
        }
    }

    private int waitingOps() {
        return nextOp - oldestWaiting;
    }

    private boolean waits(int op) {
        return op >= oldestWaiting && op < nextOp;
    }

    private boolean hasLoaded(int op) {
        // An exchange loads only when it leaves; a load that left was done.
        return ops.kindOf(op) == EXCHANGE ? !waits(op) : ops.isDone(op);
    }

    private void mark(int program) {
        marks = marks | (1L << (program & MARK_MASK));
    }

    private boolean isHeldBack(int load) {
        if (isDevice(ops.addressOf(load)) && (load != oldestWaiting || !buffer.isEmpty())) {
            return true;
        }
        for (int older = oldestWaiting; older < load; older++) {
            int kind = ops.kindOf(older);
            if (kind == FENCE || kind == EXCHANGE) {
                return true;
            }
        }
        return false;
    }

    private boolean storeWithoutAddressBefore(int load) {
        for (int older = oldestWaiting; older < load; older++) {
            if (ops.kindOf(older) == STORE && !ops.hasAddress(older)) {
                return true;
            }
        }
        return false;
    }

    private boolean storeWithoutNumberFor(int load) {
        int at = ops.addressOf(load);
        for (int k = 0; k < ops.bytesOf(load); k++) {
            int store = newestStoreBefore(load, at + k);
            if (store != NONE && !ops.hasNumber(store)) {
                return true;
            }
        }
        return false;
    }

    private int newestStoreBefore(int load, int at) {
        for (int older = load - 1; older >= oldestWaiting; older--) {
            if (ops.kindOf(older) == STORE && ops.covers(older, at)) {
                return older;
            }
        }
        return NONE;
    }

    private void doLoad(int load) {
        int at = ops.addressOf(load);
        int number = 0;
        for (int k = 0; k < ops.bytesOf(load); k++) {
            number = (number << 8) | takeByte(load, k, at + k);
        }
        ops.setLoaded(load, number);
        ops.setDone(load, true);
    }

    private int takeByte(int load, int k, int at) {
        int store = newestStoreBefore(load, at);
        if (store != NONE) {
            ops.setSource(load, k, store);
            bytesFromStores++;
            return ops.byteAt(store, at);
        }
        bytesFromElsewhere++;
        int buffered = buffer.byteAt(at);
        if (buffered != NONE) {
            ops.setSource(load, k, FROM_BUFFER);
            return buffered;
        }
        ops.setSource(load, k, FROM_MEMORY);
        return mainMemory.byteAt(at);
    }

    /** The oldest load that went ahead of a store, and missed a byte of it. */
    private int oldestLoadPast(int store) {
        for (int load = store + 1; load < nextOp; load++) {
            if (ops.isDone(load) && missedByteOf(load, store)) {
                return load;
            }
        }
        return NONE;
    }

    private boolean missedByteOf(int load, int store) {
        int at = ops.addressOf(load);
        for (int k = 0; k < ops.bytesOf(load); k++) {
            if (ops.covers(store, at + k) && ops.sourceOf(load, k) < store) {
                return true;
            }
        }
        return false;
    }

    private int oldestLoadFromMemory(int at) {
        for (int load = oldestWaiting; load < nextOp; load++) {
            if (ops.isDone(load) && ops.covers(load, at)
                    && ops.sourceOf(load, at - ops.addressOf(load)) == FROM_MEMORY) {
                return load;
            }
        }
        return NONE;
    }

    private int undoWrong(int wrongLoad) {
        int undone = 0;
        for (int load = wrongLoad; load < nextOp; load++) {
            if (ops.isDone(load)) {
                ops.setDone(load, false);
                undone++;
            }
        }
        undoneSoFar += undone;
        wrongSoFar++;
        return undone;
    }

    private int loadsDoneThatWait() {
        int done = 0;
        for (int load = oldestWaiting; load < nextOp; load++) {
            if (ops.isDone(load)) {
                done++;
            }
        }
        return done;
    }

    private boolean mayLeave(int op) {
        switch (ops.kindOf(op)) {
            case LOAD:
                return ops.isDone(op);
            case STORE:
                return ops.isTold(op)
                        && (isDevice(ops.addressOf(op)) ? buffer.isEmpty() : buffer.hasRoom());
            case FENCE:
                return buffer.isEmpty();
            default:
                return ops.isTold(op) && buffer.isEmpty();
        }
    }

    private void carryOut(int op) {
        int kind = ops.kindOf(op);
        if (!takesNumber(kind)) {
            return;
        }
        int at = ops.addressOf(op);
        int size = ops.bytesOf(op);
        if (kind == STORE && !isDevice(at)) {
            buffer.append(op, at, size, ops.numberOf(op));
            return;
        }
        if (kind == EXCHANGE) {
            ops.setLoaded(op, mainMemory.numberAt(at, size));
        }
        mainMemory.write(at, size, ops.numberOf(op));
    }

    /** What is known of the ops, in rows; an op's slot is used again by a later op. */
    private static final class OpRows {
        // loaded may ask for the last 64, after up to 32 newer ones came and were forgotten: so at
        // least 96 must keep their slots; a power of two lets a mask make every index a safe one.
        private static final int SLOTS = 128;
        private static final int SLOT_MASK = SLOTS - 1;

        private final int[] kinds = new int[SLOTS];
        private final int[] sizes = new int[SLOTS];
        private final int[] programs = new int[SLOTS];
        private final int[] addresses = new int[SLOTS];
        private final boolean[] addressTold = new boolean[SLOTS];
        private final int[] numbers = new int[SLOTS];
        private final boolean[] numberTold = new boolean[SLOTS];
        private final boolean[] done = new boolean[SLOTS];
        private final int[] loadedNumbers = new int[SLOTS];
        private final int[] sources = new int[SLOTS * MOST_OP_BYTES];

        void begin(int op, int kind, int size, int program) {
            int slot = op & SLOT_MASK;
            kinds[slot] = kind;
            sizes[slot] = size;
            programs[slot] = program;
            addressTold[slot] = false;
            numberTold[slot] = false;
            done[slot] = false;
        }

        int kindOf(int op) {
            return kinds[op & SLOT_MASK];
        }

        int bytesOf(int op) {
            return sizes[op & SLOT_MASK];
        }

        int programOf(int op) {
            return programs[op & SLOT_MASK];
        }

        boolean hasAddress(int op) {
            return addressTold[op & SLOT_MASK];
        }

        int addressOf(int op) {
            return addresses[op & SLOT_MASK];
        }

        void setAddress(int op, int at) {
            addresses[op & SLOT_MASK] = at;
            addressTold[op & SLOT_MASK] = true;
        }

        boolean hasNumber(int op) {
            return numberTold[op & SLOT_MASK];
        }

        int numberOf(int op) {
            return numbers[op & SLOT_MASK];
        }

        void setNumber(int op, int v) {
            numbers[op & SLOT_MASK] = v;
            numberTold[op & SLOT_MASK] = true;
        }

        boolean isTold(int op) {
            return hasAddress(op) && hasNumber(op);
        }

        boolean isDone(int op) {
            return done[op & SLOT_MASK];
        }

        void setDone(int op, boolean isDone) {
            done[op & SLOT_MASK] = isDone;
        }

        int loadedBy(int op) {
            return loadedNumbers[op & SLOT_MASK];
        }

        void setLoaded(int op, int number) {
            loadedNumbers[op & SLOT_MASK] = number;
        }

        int sourceOf(int op, int k) {
            return sources[sourceSlot(op, k)];
        }

        void setSource(int op, int k, int from) {
            sources[sourceSlot(op, k)] = from;
        }

        boolean covers(int op, int at) {
            int start = addressOf(op);
            return hasAddress(op) && at >= start && at < start + bytesOf(op);
        }

        int byteAt(int op, int at) {
            return byteOfNumber(numberOf(op), bytesOf(op), at - addressOf(op));
        }

        private static int sourceSlot(int op, int k) {
            return (op & SLOT_MASK) * MOST_OP_BYTES + (k & (MOST_OP_BYTES - 1));
        }
    }

    /**
     * Stores that left and are not in memory yet, the oldest first. It keeps copies, for a store may
     * stay here longer than its op's slot is its own.
     */
    private static final class StoreBuffer {
        private final int[] stores = new int[BUFFER_ROOM];
        private final int[] addresses = new int[BUFFER_ROOM];
        private final int[] sizes = new int[BUFFER_ROOM];
        private final int[] numbers = new int[BUFFER_ROOM];
        private int held = 0;

        int size() {
            return held;
        }

        boolean isEmpty() {
            return held == 0;
        }

        boolean hasRoom() {
            return held < BUFFER_ROOM;
        }

        int oldestStore() {
            return held == 0 ? NONE : stores[0];
        }

        void append(int store, int at, int size, int number) {
            if (held < 0 || held >= BUFFER_ROOM) {
                return;
            }
            stores[held] = store;
            addresses[held] = at;
            sizes[held] = size;
            numbers[held] = number;
            held++;
        }

        void moveOldestTo(ByteMemory memory) {
            if (held <= 0) {
                return;
            }
            memory.write(addresses[0], sizes[0], numbers[0]);
            for (int i = 1; i < BUFFER_ROOM; i++) {
                stores[i - 1] = stores[i];
                addresses[i - 1] = addresses[i];
                sizes[i - 1] = sizes[i];
                numbers[i - 1] = numbers[i];
            }
            held--;
        }

        /** The byte of the newest store here that has it, or NONE. */
        int byteAt(int at) {
            int newest = NONE;
            for (int i = 0; i < BUFFER_ROOM; i++) {
                if (i < held && at >= addresses[i] && at < addresses[i] + sizes[i]) {
                    newest = byteOfNumber(numbers[i], sizes[i], at - addresses[i]);
                }
            }
            return newest;
        }
    }

    /** The bytes of memory; a mask that is one less than their count makes every index a safe one. */
    private static final class ByteMemory {
        private static final int BYTE_MASK = MEMORY_BYTES - 1;

        private final byte[] cells = new byte[MEMORY_BYTES];

        int byteAt(int at) {
            return cells[at & BYTE_MASK] & 255;
        }

        void setByte(int at, int v) {
            cells[at & BYTE_MASK] = (byte) v;
        }

        int numberAt(int at, int size) {
            int number = 0;
            for (int k = 0; k < size; k++) {
                number = (number << 8) | byteAt(at + k);
            }
            return number;
        }

        void write(int at, int size, int number) {
            for (int k = 0; k < size; k++) {
                setByte(at + k, byteOfNumber(number, size, k));
            }
        }
    }
}
