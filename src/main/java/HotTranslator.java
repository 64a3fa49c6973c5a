import java.util.NoSuchElementException;

/** A small guest and the translator that runs its code; the document promises what each call answers. */
public final class HotTranslator {
    private static final int NONE = -1;
    private static final int WORD = 65535;
    private static final int BYTES = 256;
    private static final int REGISTERS = 4;
    private static final int STACK = 3;
    private static final int KEPT_OUTPUTS = 200;
    private static final char NO_FAULT = ' ';
    private static final char READY = 'r';
    private static final char HALTED = 'h';
    private static final char FAULTY = 'f';
    private static final int HALT = 0;
    private static final int COPY = 1;
    private static final int CONSTANT = 2;
    private static final int ADD = 3;
    private static final int SUBTRACT = 4;
    private static final int COMPARE = 5;
    private static final int AND = 6;
    private static final int LOAD = 7;
    private static final int STORE = 8;
    private static final int JUMP = 9;
    private static final int CALL = 10;
    private static final int RETURN = 11;
    private static final int DIVIDE = 12;
    private static final int FILL = 13;
    private static final int OUT = 14;
    private static final int MOST_INSTRUCTIONS = 8;
    private static final int REGION = 64;
    private static final int MOST_BLOCKS = 12;
    private static final int MOST_PARTS = 4;
    private static final int MOST_STEPS = 500;
    private static final int MOST_COMPARED_STEPS = 200;

    private final Runner runner;
    private final Runner plainTrial;
    private final Runner tierTrial;
    private int chosenTier;

    public HotTranslator() {
        runner = new Runner();
        plainTrial = new Runner();
        tierTrial = new Runner();
        chosenTier = 1;
    }

    // ---- the guest

    public int poke(int address, int value) throws IndexOutOfBoundsException, IllegalArgumentException {
        checkAddress(address);
        if (value < 0 || value > 255) {
            throw new IllegalArgumentException("the value is out of range");
        }
        int before = runner.guest.memory[address];
        runner.guest.memory[address] = value;
        runner.cache.throwAwayWritten(address, 1);
        return before;
    }

    public int peek(int address) throws IndexOutOfBoundsException {
        checkAddress(address);
        return runner.guest.memory[address];
    }

    public int setRegister(int register, int value) throws IndexOutOfBoundsException, IllegalArgumentException {
        checkRegister(register);
        if (value < 0 || value > WORD) {
            throw new IllegalArgumentException("the value is out of range");
        }
        int before = runner.guest.registers[register];
        runner.guest.registers[register] = value;
        return before;
    }

    public int register(int register) throws IndexOutOfBoundsException {
        checkRegister(register);
        return runner.guest.registers[register];
    }

    public boolean flag(char flag) throws IllegalArgumentException {
        switch (flag) {
            case 'z':
                return runner.guest.isZero;
            case 's':
                return runner.guest.isSigned;
            case 'c':
                return runner.guest.isCarried;
            default:
                throw new IllegalArgumentException("there is no such flag");
        }
    }

    public int place() {
        return runner.guest.place;
    }

    public int goTo(int address) throws IndexOutOfBoundsException {
        checkAddress(address);
        int before = runner.guest.place;
        runner.guest.makeReadyAt(address);
        return before;
    }

    public char state() {
        return runner.guest.state;
    }

    public char fault() throws NoSuchElementException {
        if (runner.guest.state != FAULTY) {
            throw new NoSuchElementException("the guest has no fault");
        }
        return runner.guest.fault;
    }

    public int run(int steps) throws IllegalArgumentException, IllegalStateException {
        if (steps < 1 || steps > MOST_STEPS) {
            throw new IllegalArgumentException("the number of steps is out of range");
        }
        checkReady();
        return runner.makeSteps(chosenTier, steps);
    }

    public int interrupt(int address) throws IndexOutOfBoundsException {
        checkAddress(address);
        int before = runner.guest.waiting;
        runner.guest.waiting = address;
        return before;
    }

    public int interrupts() {
        return runner.guest.interruptCount;
    }

    public boolean waits() {
        return runner.guest.waiting != NONE;
    }

    public int outputs() {
        return runner.guest.outputCount;
    }

    public int output(int index) throws IndexOutOfBoundsException {
        if (index < 0 || index >= Math.min(runner.guest.outputCount, KEPT_OUTPUTS)) {
            throw new IndexOutOfBoundsException("this number is not kept");
        }
        return runner.guest.outputs[(runner.guest.outputCount - 1 - index) % KEPT_OUTPUTS];
    }

    // ---- the translator

    public int setTier(int tier) throws IllegalArgumentException {
        checkTier(tier);
        int before = chosenTier;
        chosenTier = tier;
        return before;
    }

    public int setCache(int size) throws IllegalArgumentException {
        if (size < 1 || size > MOST_BLOCKS) {
            throw new IllegalArgumentException("the number of blocks is out of range");
        }
        int before = runner.cache.size;
        runner.cache.resize(size);
        return before;
    }

    public int setHot(int entries) throws IllegalArgumentException {
        if (entries < 2 || entries > 50) {
            throw new IllegalArgumentException("the number of entries is out of range");
        }
        int before = runner.hot;
        runner.hot = entries;
        return before;
    }

    public int flush() {
        int before = runner.cache.count;
        runner.cache.shrinkTo(0);
        return before;
    }

    public int blocks() {
        return runner.cache.count;
    }

    public int made() {
        return runner.cache.madeCount;
    }

    public boolean isKept(int block) throws IndexOutOfBoundsException {
        checkBlock(block);
        return runner.cache.find(block) != null;
    }

    public int startOf(int block) throws IndexOutOfBoundsException, NoSuchElementException {
        return keptBlock(block).start;
    }

    public int lengthOf(int block) throws IndexOutOfBoundsException, NoSuchElementException {
        return keptBlock(block).length;
    }

    public int bytesOf(int block) throws IndexOutOfBoundsException, NoSuchElementException {
        return keptBlock(block).bytes;
    }

    public int entries(int block) throws IndexOutOfBoundsException, NoSuchElementException {
        return keptBlock(block).entries;
    }

    public int linkOf(int block, boolean isTaken) throws IndexOutOfBoundsException, NoSuchElementException {
        int link = keptBlock(block).linkBy(isTaken);
        if (link == NONE) {
            throw new NoSuchElementException("the block has no such link");
        }
        return link;
    }

    public int partsOf(int block) throws IndexOutOfBoundsException, NoSuchElementException {
        return keptBlock(block).partCount;
    }

    public int blockAt(int address) throws IndexOutOfBoundsException, NoSuchElementException {
        checkAddress(address);
        Block found = runner.cache.findAt(address);
        if (found == null) {
            throw new NoSuchElementException("no block that begins there is kept");
        }
        return found.number;
    }

    public int lookUps() {
        return runner.lookUpCount;
    }

    public int chained() {
        return runner.chainedCount;
    }

    public int longBlocks() {
        return runner.cache.longCount;
    }

    public int sideExits() {
        return runner.sideExitCount;
    }

    public int discarded() {
        return runner.cache.discardedCount;
    }

    public int skipped() {
        return runner.skippedCount;
    }

    // ---- figures

    public long steps() {
        return runner.guest.stepCount;
    }

    public boolean isSameBy(int tier, int steps) throws IllegalArgumentException, IllegalStateException {
        checkTier(tier);
        if (steps < 1 || steps > MOST_COMPARED_STEPS) {
            throw new IllegalArgumentException("the number of steps is out of range");
        }
        checkReady();
        plainTrial.beginAs(runner);
        tierTrial.beginAs(runner);
        plainTrial.makeSteps(0, steps);
        tierTrial.makeSteps(tier, steps);
        return plainTrial.guest.isLike(tierTrial.guest);
    }

    public float chainShare() throws ArithmeticException {
        int all = runner.chainedCount + runner.lookUpCount;
        if (all == 0) {
            throw new ArithmeticException("no block was entered by a link or a look-up");
        }
        return (float) runner.chainedCount / (float) all;
    }

    public double meanLength() throws ArithmeticException {
        if (runner.cache.madeCount == 0) {
            throw new ArithmeticException("no block was made");
        }
        return (double) runner.cache.madeLength / (double) runner.cache.madeCount;
    }

    public boolean isSound() {
        return runner.cache.isSoundFor(runner.guest);
    }

    private static void checkAddress(int address) {
        if (address < 0 || address >= BYTES) {
            throw new IndexOutOfBoundsException("there is no such address");
        }
    }

    private static void checkRegister(int register) {
        if (register < 0 || register >= REGISTERS) {
            throw new IndexOutOfBoundsException("there is no such register");
        }
    }

    private static void checkTier(int tier) {
        if (tier < 0 || tier > 2) {
            throw new IllegalArgumentException("there is no such tier");
        }
    }

    private void checkReady() {
        if (runner.guest.state != READY) {
            throw new IllegalStateException("the guest is not ready");
        }
    }

    private void checkBlock(int block) {
        if (block < 0 || block >= runner.cache.madeCount) {
            throw new IndexOutOfBoundsException("there never was such a block");
        }
    }

    private Block keptBlock(int block) {
        checkBlock(block);
        Block found = runner.cache.find(block);
        if (found == null) {
            throw new NoSuchElementException("the block is not kept");
        }
        return found;
    }

    /** The machine that the code is written for, one step at a time; it knows nothing of blocks. */
    private static final class Guest {
        final int[] memory = new int[BYTES];
        final int[] registers = new int[REGISTERS];
        final int[] outputs = new int[KEPT_OUTPUTS];
        boolean isZero;
        boolean isSigned;
        boolean isCarried;
        int place;
        char state = READY;
        char fault = NO_FAULT;
        int waiting = NONE;
        boolean isBehindJump;
        boolean isAmidFill;
        int writtenAt;
        int writtenBytes;
        int interruptCount;
        int outputCount;
        long stepCount;

        void makeReadyAt(int address) {
            place = address;
            state = READY;
            fault = NO_FAULT;
            isBehindJump = false;
        }

        /** How many bytes the instruction with this first byte has, 0 if it is none. */
        static int sizeOf(int first) {
            int number = first & 15;
            int b = first & 3;
            switch (first >> 4) {
                case COPY:
                case ADD:
                case SUBTRACT:
                case COMPARE:
                case AND:
                case DIVIDE:
                    return 1;
                case LOAD:
                case STORE:
                    return 2;
                case HALT:
                case RETURN:
                case FILL:
                    return number == 0 ? 1 : 0;
                case CONSTANT:
                    return b == 0 ? 3 : 0;
                case JUMP:
                    return number <= 6 ? 2 : 0;
                case CALL:
                    return number == 0 ? 2 : 0;
                case OUT:
                    return b == 0 ? 1 : 0;
                default:
                    return 0;
            }
        }

        /** The fault that the code at the place is by its bytes alone. */
        private char codeFault() {
            if (place < 0 || place >= BYTES) {
                return 'x';
            }
            int size = sizeOf(memory[place]);
            if (size == 0) {
                return 'i';
            }
            return place + size > BYTES ? 'x' : NO_FAULT;
        }

        /** Does one step; a fault is no step. */
        boolean step(boolean isSettingFlags) {
            writtenBytes = 0;
            isAmidFill = false;
            char found = codeFault();
            if (found == NO_FAULT) {
                found = perform(byteAt(place), isSettingFlags);
            }
            if (found != NO_FAULT) {
                state = FAULTY;
                fault = found;
                return false;
            }
            stepCount++;
            return true;
        }

        /** Takes the interrupt that waits, if it is due and its word can be written. */
        boolean takeInterrupt() {
            writtenBytes = 0;
            if (waiting == NONE || !isBehindJump || !push(place)) {
                return false;
            }
            place = waiting;
            waiting = NONE;
            isBehindJump = false;
            interruptCount++;
            return true;
        }

        private char perform(int first, boolean isSettingFlags) {
            int a = (first >> 2) & 3;
            int b = first & 3;
            int behind = (place + sizeOf(first)) & WORD;
            switch (first >> 4) {
                case HALT:
                    state = HALTED;
                    return goOn(behind);
                case COPY:
                    registers[a] = registers[b];
                    return goOn(behind);
                case CONSTANT:
                    registers[a] = byteAt(place + 1) + 256 * byteAt(place + 2);
                    return goOn(behind);
                case ADD:
                case SUBTRACT:
                case COMPARE:
                case AND:
                    calculate(first, isSettingFlags);
                    return goOn(behind);
                case LOAD:
                    return load(a, (registers[b] + byteAt(place + 1)) & WORD, behind);
                case STORE:
                    return putWord((registers[b] + byteAt(place + 1)) & WORD, registers[a]) ? goOn(behind) : 'm';
                case JUMP:
                    return isHeld(first & 15) ? jump(behind + farAt(place + 1)) : goOn(behind);
                case CALL: {
                    // the way is read first, as the word that is put may lie over it
                    int target = behind + farAt(place + 1);
                    return push(behind) ? jump(target) : 'm';
                }
                case RETURN:
                    return comeBack();
                case DIVIDE:
                    return divide(a, b, behind);
                case FILL:
                    return fill(behind);
                case OUT:
                    putOut(registers[a]);
                    return goOn(behind);
                default:
                    return 'i';
            }
        }

        private char goOn(int behind) {
            place = behind;
            isBehindJump = false;
            return NO_FAULT;
        }

        private char jump(int target) {
            place = target & WORD;
            isBehindJump = true;
            return NO_FAULT;
        }

        private void calculate(int first, boolean isSettingFlags) {
            int op = first >> 4;
            int a = (first >> 2) & 3;
            int left = registers[a];
            int right = registers[first & 3];
            int result = op == ADD ? left + right : op == AND ? left & right : left - right;
            if (op != COMPARE) {
                registers[a] = result & WORD;
            }
            if (isSettingFlags) {
                isZero = (result & WORD) == 0;
                isSigned = (result & WORD) >= 32768;
                isCarried = result < 0 || result > WORD;
            }
        }

        private char load(int a, int address, int behind) {
            if (!isWordAt(address)) {
                return 'm';
            }
            registers[a] = byteAt(address) + 256 * byteAt(address + 1);
            return goOn(behind);
        }

        private char comeBack() {
            int top = registers[STACK];
            if (!isWordAt(top)) {
                return 'm';
            }
            registers[STACK] = (top + 2) & WORD;
            return jump(byteAt(top) + 256 * byteAt(top + 1));
        }

        private char divide(int a, int b, int behind) {
            int divisor = registers[b];
            if (divisor == 0) {
                return 'd';
            }
            registers[a] = registers[a] / divisor;
            return goOn(behind);
        }

        /** Writes one byte of a fill; the place stays that of the fill until the last one. */
        private char fill(int behind) {
            if (registers[2] == 0) {
                return goOn(behind);
            }
            int address = registers[1];
            if (address < 0 || address >= BYTES) {
                return 'm';
            }
            memory[address] = registers[0] & 255;
            writtenAt = address;
            writtenBytes = 1;
            registers[1] = (address + 1) & WORD;
            registers[2] = registers[2] - 1;
            isAmidFill = registers[2] != 0;
            return goOn(isAmidFill ? place : behind);
        }

        private void putOut(int value) {
            outputs[outputCount % KEPT_OUTPUTS] = value;
            outputCount++;
        }

        private boolean isHeld(int condition) {
            switch (condition) {
                case 0:
                    return true;
                case 1:
                    return isZero;
                case 2:
                    return !isZero;
                case 3:
                    return isCarried;
                case 4:
                    return !isCarried;
                case 5:
                    return isSigned;
                default:
                    return !isSigned;
            }
        }

        private boolean push(int value) {
            int top = (registers[STACK] - 2) & WORD;
            if (!putWord(top, value)) {
                return false;
            }
            registers[STACK] = top;
            return true;
        }

        private static boolean isWordAt(int address) {
            return address >= 0 && address < BYTES - 1;
        }

        private boolean putWord(int address, int value) {
            if (address < 0 || address >= BYTES - 1) {
                return false;
            }
            memory[address] = value & 255;
            memory[address + 1] = (value >> 8) & 255;
            writtenAt = address;
            writtenBytes = 2;
            return true;
        }

        /** The byte at an address, 0 if there is no such address. */
        int byteAt(int address) {
            return address >= 0 && address < BYTES ? memory[address] : 0;
        }

        /** The byte at an address as a way from -128 to 127. */
        private int farAt(int address) {
            return (byte) byteAt(address);
        }

        void copyFrom(Guest other) {
            System.arraycopy(other.memory, 0, memory, 0, BYTES);
            System.arraycopy(other.registers, 0, registers, 0, REGISTERS);
            System.arraycopy(other.outputs, 0, outputs, 0, KEPT_OUTPUTS);
            isZero = other.isZero;
            isSigned = other.isSigned;
            isCarried = other.isCarried;
            place = other.place;
            state = other.state;
            fault = other.fault;
            waiting = other.waiting;
            isBehindJump = other.isBehindJump;
            interruptCount = other.interruptCount;
            outputCount = other.outputCount;
            stepCount = other.stepCount;
        }

        boolean isLike(Guest other) {
            return areAlike(memory, other.memory)
                    && areAlike(registers, other.registers)
                    && areAlike(outputs, other.outputs)
                    && isZero == other.isZero
                    && isSigned == other.isSigned
                    && isCarried == other.isCarried
                    && place == other.place
                    && state == other.state
                    && fault == other.fault
                    && waiting == other.waiting
                    && isBehindJump == other.isBehindJump
                    && interruptCount == other.interruptCount
                    && outputCount == other.outputCount
                    && stepCount == other.stepCount;
        }

        private static boolean areAlike(int[] left, int[] right) {
            if (left.length != right.length) {
                return false;
            }
            for (int i = 0; i < left.length; i++) {
                if (left[i] != right[i]) {
                    return false;
                }
            }
            return true;
        }
    }

    /** A block, its two links, and the long block that it begins. */
    private static final class Block {
        int number = NONE;
        int start;
        int length;
        int bytes;
        int entries;
        final int[] ops = new int[MOST_INSTRUCTIONS];
        final int[] reaches = new int[MOST_INSTRUCTIONS];
        int takenLink = NONE;
        int takenStamp;
        int behindLink = NONE;
        int behindStamp;
        final int[] parts = new int[MOST_PARTS];
        int partCount;

        /** Becomes the block that the guest's memory gives at a place. */
        void makeFrom(Guest guest, int newNumber, int newStart) {
            number = newNumber;
            start = newStart;
            bytes = 0;
            entries = 0;
            takenLink = NONE;
            behindLink = NONE;
            partCount = 0;
            boolean isOpen = true;
            for (int i = 0; i < MOST_INSTRUCTIONS && isOpen; i++) {
                int at = start + bytes;
                boolean isThere = at < BYTES;
                int first = guest.byteAt(at);
                int size = Guest.sizeOf(first);
                ops[i] = isThere && size > 0 && at + size <= BYTES ? first >> 4 : NONE;
                bytes += isThere ? Math.min(Math.max(1, size), BYTES - at) : 0;
                length = i + 1;
                isOpen = !isEnd(ops[i]) && (start + bytes) / REGION == start / REGION;
            }
            putReaches();
        }

        private static boolean isEnd(int op) {
            return op == NONE || op == HALT || op == JUMP || op == CALL || op == RETURN;
        }

        /** Notes for each op that sets flags how many instructions it takes until they are set anew unseen. */
        private void putReaches() {
            int setter = NONE;
            for (int i = Math.min(length, MOST_INSTRUCTIONS) - 1; i >= 0; i--) {
                int op = ops[i];
                reaches[i] = 0;
                if (op >= ADD && op <= AND) {
                    reaches[i] = setter == NONE ? 0 : setter - i + 1;
                    setter = i;
                } else if (op != COPY && op != CONSTANT && op != OUT) {
                    setter = NONE;
                }
            }
        }

        /** Whether the flags of an instruction can be left out with so many steps, its own counted. */
        boolean isUnseen(int index, int stepsLeft) {
            if (index < 0 || index >= MOST_INSTRUCTIONS) {
                return false;
            }
            return reaches[index] > 0 && stepsLeft >= reaches[index];
        }

        boolean isEndingByReturn() {
            return length > 0 && length <= MOST_INSTRUCTIONS && ops[length - 1] == RETURN;
        }

        boolean hasByteOf(int address, int byteCount) {
            return address < start + bytes && start < address + byteCount;
        }

        int linkBy(boolean isTaken) {
            return isTaken ? takenLink : behindLink;
        }

        void putLink(boolean isTaken, int target, int stamp) {
            if (isTaken) {
                takenLink = target;
                takenStamp = stamp;
            } else {
                behindLink = target;
                behindStamp = stamp;
            }
        }

        /** The link that was put or followed last, of those that are there. */
        int latestLink() {
            if (takenLink == NONE || behindLink == NONE) {
                return takenLink == NONE ? behindLink : takenLink;
            }
            return takenStamp > behindStamp ? takenLink : behindLink;
        }

        int partAt(int index) {
            return index >= 0 && index < partCount && index < MOST_PARTS ? parts[index] : NONE;
        }

        boolean hasPart(int block) {
            for (int i = 0; i < partCount && i < MOST_PARTS; i++) {
                if (parts[i] == block) {
                    return true;
                }
            }
            return false;
        }

        void addPart(int block) {
            if (partCount >= 0 && partCount < MOST_PARTS) {
                parts[partCount] = block;
                partCount++;
            }
        }

        /** Drops what leads to a block that is thrown away. */
        void forget(int gone) {
            if (takenLink == gone) {
                takenLink = NONE;
            }
            if (behindLink == gone) {
                behindLink = NONE;
            }
            for (int i = 0; i < partCount && i < MOST_PARTS; i++) {
                if (parts[i] == gone) {
                    partCount = 0;
                }
            }
        }

        boolean isMadeLike(Block other) {
            if (start != other.start || length != other.length || bytes != other.bytes) {
                return false;
            }
            for (int i = 0; i < length && i < MOST_INSTRUCTIONS; i++) {
                if (ops[i] != other.ops[i] || reaches[i] != other.reaches[i]) {
                    return false;
                }
            }
            return true;
        }
    }

    /** The blocks that are kept, the earliest first; their rows are used again. */
    private static final class Cache {
        final Block[] rows = new Block[MOST_BLOCKS];
        final Block probe = new Block();
        int count;
        int size = 8;
        int madeCount;
        int madeLength;
        int discardedCount;
        int longCount;
        int lastStamp;

        Cache() {
            for (int i = 0; i < MOST_BLOCKS; i++) {
                rows[i] = new Block();
            }
        }

        Block find(int number) {
            for (int i = 0; i < count && i < MOST_BLOCKS; i++) {
                if (rows[i].number == number) {
                    return rows[i];
                }
            }
            return null;
        }

        Block findAt(int start) {
            for (int i = 0; i < count && i < MOST_BLOCKS; i++) {
                if (rows[i].start == start) {
                    return rows[i];
                }
            }
            return null;
        }

        /** Makes the block at a place where none is kept; there are never more than can be, so one makes room. */
        Block make(Guest guest, int start) {
            if (count >= size) {
                throwAway(0);
            }
            int row = Math.max(0, Math.min(count, MOST_BLOCKS - 1));
            Block block = rows[row];
            block.makeFrom(guest, madeCount, start);
            count = row + 1;
            madeCount++;
            madeLength += block.length;
            return block;
        }

        int nextStamp() {
            lastStamp++;
            return lastStamp;
        }

        void resize(int newSize) {
            size = newSize;
            shrinkTo(newSize);
        }

        void throwAwayWritten(int address, int byteCount) {
            if (byteCount <= 0) {
                return;
            }
            for (int i = Math.min(count, MOST_BLOCKS) - 1; i >= 0; i--) {
                if (rows[i].hasByteOf(address, byteCount)) {
                    throwAway(i);
                }
            }
        }

        /** Throws the earliest blocks away until there are not more than so many. */
        void shrinkTo(int most) {
            for (int turn = 0; turn < MOST_BLOCKS && count > most; turn++) {
                throwAway(0);
            }
        }

        private void throwAway(int row) {
            if (row < 0 || row >= count || count > MOST_BLOCKS) {
                return;
            }
            Block gone = rows[row];
            int number = gone.number;
            for (int i = row; i < count - 1; i++) {
                rows[i] = rows[i + 1];
            }
            rows[count - 1] = gone;
            gone.number = NONE;
            count--;
            discardedCount++;
            for (int i = 0; i < count; i++) {
                rows[i].forget(number);
            }
        }

        /** Lets a block begin a long block along the links that were used last, if these lead on. */
        void beginLong(Block head) {
            head.partCount = 0;
            head.addPart(head.number);
            Block last = head;
            for (int i = 1; i < MOST_PARTS; i++) {
                Block next = find(last.latestLink());
                if (next == null || head.hasPart(next.number)) {
                    break;
                }
                head.addPart(next.number);
                last = next;
            }
            if (head.partCount < 2) {
                head.partCount = 0;
            } else {
                longCount++;
            }
        }

        /** Forgets all blocks, uncounted, for a trial. */
        void clear(int newSize) {
            count = 0;
            size = newSize;
        }

        boolean isSoundFor(Guest guest) {
            if (count < 0 || count > size) {
                return false;
            }
            for (int i = 0; i < count && i < MOST_BLOCKS; i++) {
                Block block = rows[i];
                probe.makeFrom(guest, block.number, block.start);
                if (!block.isMadeLike(probe) || !isLeadingToKept(block)) {
                    return false;
                }
            }
            return true;
        }

        private boolean isLeadingToKept(Block block) {
            boolean isLeading = isNoneOrKept(block.takenLink) && isNoneOrKept(block.behindLink);
            for (int i = 0; i < block.partCount; i++) {
                isLeading = isLeading && find(block.partAt(i)) != null;
            }
            return isLeading;
        }

        private boolean isNoneOrKept(int link) {
            return link == NONE || find(link) != null;
        }
    }

    /** Runs a guest by a tier, with the blocks that it keeps for that. */
    private static final class Runner {
        final Guest guest = new Guest();
        final Cache cache = new Cache();
        int hot = 4;
        int lookUpCount;
        int chainedCount;
        int sideExitCount;
        int skippedCount;
        /** The block behind which the guest stands by a way that has a link, and that way. */
        int source = NONE;
        boolean isTakenWay;
        /** The block whose long block runs, and the index of the part that runs. */
        int longHead = NONE;
        int longIndex;

        /** Takes over the guest and the settings of another one, with no blocks. */
        void beginAs(Runner other) {
            guest.copyFrom(other.guest);
            cache.clear(other.cache.size);
            hot = other.hot;
        }

        /** Each turn makes a step or ends in a fault, so that there are not more turns than steps. */
        int makeSteps(int tier, int limit) {
            int done = 0;
            source = NONE;
            longHead = NONE;
            for (int turn = 0; turn < limit && done < limit && guest.state == READY; turn++) {
                if (tier == 0) {
                    done += makePlainStep();
                } else {
                    Block block = enterNext(tier == 2);
                    done += runBlock(block, limit - done);
                }
            }
            return done;
        }

        private int makePlainStep() {
            guest.takeInterrupt();
            cache.throwAwayWritten(guest.writtenAt, guest.writtenBytes);
            boolean isDone = guest.step(true);
            cache.throwAwayWritten(guest.writtenAt, guest.writtenBytes);
            return isDone ? 1 : 0;
        }

        /** Enters the block at the guest's place, behind an interrupt that is due. */
        private Block enterNext(boolean isLongTier) {
            if (guest.takeInterrupt()) {
                source = NONE;
            }
            cache.throwAwayWritten(guest.writtenAt, guest.writtenBytes);
            // only now, as a long block that went by the interrupt's word is left without a side exit
            int guarded = guardedPart();
            Block from = cache.find(source);
            Block next = from == null ? null : linkedBlock(from);
            if (guarded != NONE) {
                if (next != null && next.number == guarded) {
                    longIndex++;
                    next.entries++;
                    return next;
                }
                sideExitCount++;
            }
            longHead = NONE;
            if (from != null && next != null) {
                chainedCount++;
                from.putLink(isTakenWay, next.number, cache.nextStamp());
            } else {
                next = lookUp();
            }
            next.entries++;
            if (isLongTier) {
                startLong(next);
            }
            return next;
        }

        /** The part that the long block expects next, NONE if none runs or its last part has run. */
        private int guardedPart() {
            Block head = cache.find(longHead);
            return head == null ? NONE : head.partAt(longIndex + 1);
        }

        private Block linkedBlock(Block from) {
            int link = from.linkBy(isTakenWay);
            Block target = link == NONE ? null : cache.find(link);
            return target != null && target.start == guest.place ? target : null;
        }

        private Block lookUp() {
            lookUpCount++;
            Block found = cache.findAt(guest.place);
            if (found == null) {
                found = cache.make(guest, guest.place);
            }
            // making one may have thrown away the very block that was left
            Block from = cache.find(source);
            if (from != null) {
                from.putLink(isTakenWay, found.number, cache.nextStamp());
            }
            return found;
        }

        private void startLong(Block block) {
            if (block.partCount == 0 && block.entries >= hot) {
                cache.beginLong(block);
            }
            if (block.partCount > 0) {
                longHead = block.number;
                longIndex = 0;
            }
        }

        private int runBlock(Block block, int limit) {
            int number = block.number;
            int done = 0;
            int index = 0;
            source = NONE;
            for (int turn = 0; turn < limit && block.number == number && index < block.length; turn++) {
                boolean isSkipping = block.isUnseen(index, limit - done);
                if (isSkipping) {
                    skippedCount++;
                }
                if (!guest.step(!isSkipping)) {
                    return done;
                }
                done++;
                cache.throwAwayWritten(guest.writtenAt, guest.writtenBytes);
                if (!guest.isAmidFill) {
                    index++;
                }
            }
            if (block.number == number && index == block.length && !block.isEndingByReturn()) {
                source = number;
                isTakenWay = guest.isBehindJump;
            }
            return done;
        }
    }
}
