import java.util.Arrays;

/** The processor of a mainframe of the sixties; ../shared/DOC.md says what it promises. */
public final class MainframeCore {
    private static final int NO_OPERATION = 1;
    private static final int SUPERVISOR_ALONE = 2;
    private static final int EXECUTE_OF_EXECUTE = 3;
    private static final int PROTECTED = 4;
    private static final int NO_SUCH_ADDRESS = 5;
    private static final int NOT_AS_SPECIFIED = 6;
    private static final int NOT_DECIMAL = 7;
    private static final int FIXED_OVERFLOW = 8;
    private static final int NO_FIXED_QUOTIENT = 9;
    private static final int DECIMAL_OVERFLOW = 10;
    private static final int NO_DECIMAL_QUOTIENT = 11;

    private static final int SIZE = 8192;
    private static final int BLOCK_SIZE = 2048;
    private static final int ADDRESS_BITS = 0xFFFFFF;
    private static final boolean READING = false;
    private static final boolean WRITING = true;
    private static final int EXECUTE = 0x44;
    private static final int TIMER = 80;
    private static final int TIMER_RAN_OUT = 0x80;
    private static final int MOST_TICKS = 1000000;
    private static final int MOST_STEPS = 3000;

    private static final int PROGRAM = 0;
    private static final int SVC = 1;
    private static final int EXTERNAL = 2;
    private static final int[] OLD = {40, 32, 24};
    private static final int[] NEW = {104, 96, 88};

    private final Machine machine;
    private final Instruction instruction;
    private final Words words;
    private final Shifts shifts;
    private final Control control;
    private final Strings strings;
    private final Decimals decimals;
    private final Editor editor;
    private final int[] interruptions;
    private int wanted;

    public MainframeCore() {
        machine = new Machine();
        instruction = new Instruction(machine);
        words = new Words(machine, instruction);
        shifts = new Shifts(machine, instruction);
        control = new Control(machine, instruction);
        strings = new Strings(machine, instruction);
        decimals = new Decimals(machine, instruction);
        editor = new Editor(machine, instruction);
        interruptions = new int[3];
    }

    public int register(int k) throws IndexOutOfBoundsException {
        if (k < 0 || k > 15) {
            throw new IndexOutOfBoundsException();
        }
        return machine.reg(k);
    }

    public void put(int k, int v) throws IndexOutOfBoundsException {
        if (k < 0 || k > 15) {
            throw new IndexOutOfBoundsException();
        }
        machine.setReg(k, v);
    }

    public long status() {
        return machine.psw.word;
    }

    public void load(long status) {
        machine.psw.become(status);
    }

    public void write(int address, long v, int n) throws IllegalArgumentException {
        if (!areBytes(address, n)) {
            throw new IllegalArgumentException();
        }
        machine.memory.setNumber(address, v, n);
    }

    public long read(int address, int n) throws IllegalArgumentException {
        if (!areBytes(address, n)) {
            throw new IllegalArgumentException();
        }
        return machine.memory.number(address, n);
    }

    public int key(int block, int key) throws IllegalArgumentException {
        if (block < 0 || block > 3 || key < 0 || key > 31) {
            throw new IllegalArgumentException();
        }
        int was = machine.memory.blockKey(block);
        machine.memory.setBlockKey(block, key);
        return was;
    }

    public void want(int code) throws IllegalArgumentException {
        if (code < 0 || code > 255) {
            throw new IllegalArgumentException();
        }
        wanted |= code;
    }

    public int tick(int n) throws IllegalArgumentException {
        if (n < 0 || n > MOST_TICKS) {
            throw new IllegalArgumentException();
        }
        int was = machine.memory.word(TIMER);
        int is = was - n;
        machine.memory.setNumber(TIMER, is, 4);
        if (was >= 0 && is < 0) {
            wanted |= TIMER_RAN_OUT;
        }
        return is;
    }

    public int step(int n) throws IllegalArgumentException {
        if (n < 0 || n > MOST_STEPS) {
            throw new IllegalArgumentException();
        }
        int done = 0;
        while (done < n && !waits()) {
            goOn();
            done++;
        }
        return done;
    }

    public boolean waits() {
        return machine.psw.has(Psw.WAIT) && !externalComes();
    }

    public int told(int what) throws IllegalArgumentException {
        if (what < 0 || what > 2) {
            throw new IllegalArgumentException();
        }
        return interruptions[what];
    }

    public int sum() {
        int total = 0;
        for (int address = 0; address < SIZE; address++) {
            total += machine.memory.get(address) * (address + 1);
        }
        return total;
    }

    private static boolean areBytes(int address, int n) {
        return n >= 1 && n <= 8 && address >= 0 && address <= SIZE - n;
    }

    private boolean externalComes() {
        return wanted != 0 && machine.psw.has(Psw.EXTERNAL_ALLOWED);
    }

    private void goOn() {
        if (externalComes()) {
            machine.psw.setLength(0);
            interrupt(EXTERNAL, wanted);
            wanted = 0;
            return;
        }
        machine.fault = 0;
        takeInstruction();
        if (machine.fine() && instruction.operation == EXECUTE) {
            takeExecuted();
        }
        if (machine.fine() && instruction.operation < 0x80) {
            performLower();
        } else if (machine.fine()) {
            performUpper();
        }
        if (!machine.fine()) {
            interrupt(PROGRAM, machine.fault);
        }
    }

    private void interrupt(int kind, int code) {
        machine.psw.setCode(code);
        machine.memory.setNumber(OLD[kind], machine.psw.word, 8);
        machine.psw.become(machine.memory.number(NEW[kind], 8));
        interruptions[kind]++;
    }

    private void takeInstruction() {
        int at = machine.psw.address();
        // Without its first half nobody knows how long the instruction is.
        machine.psw.setLength(0);
        instruction.demandFirstHalf(at);
        if (!machine.fine()) {
            return;
        }
        int halves = instruction.halvesAt(at);
        machine.psw.setLength(halves);
        machine.psw.setAddress(at + 2 * halves);
        instruction.take(at, 0);
    }

    private void takeExecuted() {
        int at = instruction.a;
        int joined = instruction.r == 0 ? 0 : machine.reg(instruction.r) & 255;
        instruction.demandFirstHalf(at);
        if (!machine.fine()) {
            return;
        }
        instruction.take(at, joined);
        if (machine.fine() && instruction.operation == EXECUTE) {
            machine.fail(EXECUTE_OF_EXECUTE);
        }
    }

    private void performLower() {
        int s = instruction.s;
        switch (instruction.operation) {
            case 0x04: control.setProgramMask(); break;
            case 0x05: control.branchAndLink(s != 0, machine.reg(s)); break;
            case 0x06: control.branchOnCount(s != 0, machine.reg(s)); break;
            case 0x07: control.branchOnCondition(s != 0, machine.reg(s)); break;
            case 0x08: control.setKey(); break;
            case 0x09: control.insertKey(); break;
            case 0x0A: interrupt(SVC, instruction.i); break;
            case 0x10: case 0x11: case 0x12: case 0x13: words.withSign(machine.reg(s)); break;
            case 0x14: case 0x15: case 0x16: case 0x17: case 0x18: case 0x19:
            case 0x1A: case 0x1B: case 0x1C: case 0x1D: case 0x1E: case 0x1F:
                words.combine(machine.reg(s)); break;
            case 0x40: words.store(2); break;
            case 0x41: machine.setReg(instruction.r, instruction.a); break;
            case 0x42: words.store(1); break;
            case 0x43: words.insertByte(); break;
            case 0x45: control.branchAndLink(true, instruction.a); break;
            case 0x46: control.branchOnCount(true, instruction.a); break;
            case 0x47: control.branchOnCondition(true, instruction.a); break;
            case 0x48: case 0x49: case 0x4A: case 0x4B: words.combineHalf(); break;
            case 0x4C: words.multiplyHalf(); break;
            case 0x4E: decimals.fromRegister(); break;
            case 0x4F: decimals.toRegister(); break;
            case 0x50: words.store(4); break;
            case 0x54: case 0x55: case 0x56: case 0x57: case 0x58: case 0x59:
            case 0x5A: case 0x5B: case 0x5C: case 0x5D: case 0x5E: case 0x5F:
                words.combineWord(); break;
            default: machine.fail(NO_OPERATION); break;
        }
    }

    private void performUpper() {
        switch (instruction.operation) {
            case 0x80: control.setSystemMask(); break;
            case 0x82: control.loadStatus(); break;
            case 0x86: control.branchOnIndex(true); break;
            case 0x87: control.branchOnIndex(false); break;
            case 0x88: case 0x89: case 0x8A: case 0x8B: shifts.shiftWord(); break;
            case 0x8C: case 0x8D: case 0x8E: case 0x8F: shifts.shiftDouble(); break;
            case 0x90: words.storeMany(); break;
            case 0x91: case 0x95: strings.testByte(); break;
            case 0x92: case 0x93: case 0x94: case 0x96: case 0x97: strings.changeByte(); break;
            case 0x98: words.loadMany(); break;
            case 0xD1: case 0xD2: case 0xD3: case 0xD4: case 0xD6: case 0xD7: strings.change(); break;
            case 0xD5: strings.compare(); break;
            case 0xDC: strings.translate(); break;
            case 0xDD: strings.translateAndTest(); break;
            case 0xDE: editor.edit(false); break;
            case 0xDF: editor.edit(true); break;
            case 0xF1: case 0xF2: case 0xF3: decimals.move(); break;
            case 0xF8: case 0xF9: case 0xFA: case 0xFB: decimals.combine(); break;
            case 0xFC: case 0xFD: decimals.multiplyOrDivide(); break;
            default: machine.fail(NO_OPERATION); break;
        }
    }

    /** The bytes and the keys of their blocks. Addresses have been looked at before they come here. */
    private static final class Memory {
        private final byte[] bytes = new byte[SIZE];
        private final int[] keys = new int[4];

        int get(int address) {
            return bytes[address & (SIZE - 1)] & 255;
        }

        void set(int address, int v) {
            bytes[address & (SIZE - 1)] = (byte) v;
        }

        long number(int address, int n) {
            long v = 0;
            for (int k = 0; k < n; k++) {
                v = v << 8 | get(address + k);
            }
            return v;
        }

        void setNumber(int address, long v, int n) {
            for (int k = 0; k < n; k++) {
                set(address + k, (int) (v >>> 8 * (n - 1 - k)));
            }
        }

        int word(int address) {
            return (int) number(address, 4);
        }

        int half(int address) {
            return (short) (get(address) << 8 | get(address + 1));
        }

        int blockKey(int block) {
            return keys[block & 3];
        }

        void setBlockKey(int block, int key) {
            keys[block & 3] = key;
        }

        /** The exception of a byte that one with this key reads or writes, or 0. */
        int refusal(int address, boolean writing, int key) {
            if (address >= SIZE) {
                return NO_SUCH_ADDRESS;
            }
            int own = keys[address / BLOCK_SIZE & 3];
            boolean foreign = key != 0 && own >> 1 != key;
            return foreign && (writing || (own & 1) != 0) ? PROTECTED : 0;
        }
    }

    /** The status; its bits are counted from the highest one. */
    private static final class Psw {
        static final int EXTERNAL_ALLOWED = 7;
        static final int WAIT = 14;
        static final int PROBLEM = 15;
        static final int FIXED_MASK = 36;
        static final int DECIMAL_MASK = 37;
        private static final long NEVER_SET = 3L << 50;

        private long word;

        void become(long v) {
            word = v & ~NEVER_SET;
        }

        boolean has(int bit) {
            return (word >>> (63 - bit) & 1) == 1;
        }

        private void change(int lastBit, int bits, int v) {
            int shift = 63 - lastBit;
            long mask = (1L << bits) - 1;
            word = word & ~(mask << shift) | (v & mask) << shift;
        }

        void setSystemMask(int v) {
            change(7, 8, v);
        }

        int protectionKey() {
            return (int) (word >>> 52) & 15;
        }

        void setCode(int v) {
            change(31, 16, v);
        }

        void setLength(int v) {
            change(33, 2, v);
        }

        int condition() {
            return (int) (word >>> 28) & 3;
        }

        void setCondition(int v) {
            word = word & ~(3L << 28) | (v & 3L) << 28;
        }

        void setConditionAndProgramMask(int v) {
            change(39, 6, v);
        }

        int address() {
            return (int) word & ADDRESS_BITS;
        }

        void setAddress(int v) {
            change(63, 24, v);
        }
    }

    /** What all operations share: memory, registers, status, and the exception that is met, or 0. */
    private static final class Machine {
        private final Memory memory = new Memory();
        private final Psw psw = new Psw();
        private final int[] registers = new int[16];
        private int fault;

        int reg(int k) {
            return registers[k & 15];
        }

        void setReg(int k, int v) {
            registers[k & 15] = v;
        }

        long pair(int k) {
            return (long) reg(k) << 32 | reg(k + 1) & 0xFFFFFFFFL;
        }

        void setPair(int k, long v) {
            setReg(k, (int) (v >> 32));
            setReg(k + 1, (int) v);
        }

        void setLastByte(int k, int v) {
            setReg(k, reg(k) & ~255 | v & 255);
        }

        void setLastAddress(int k, int v) {
            setReg(k, reg(k) & ~ADDRESS_BITS | v & ADDRESS_BITS);
        }

        boolean fine() {
            return fault == 0;
        }

        /** The least exception counts; 0 is none. */
        void fail(int exception) {
            if (exception != 0 && (fault == 0 || exception < fault)) {
                fault = exception;
            }
        }

        /** No operand is as long as a block: what its two ends are refused is all that can be. */
        void demand(int address, int n, boolean writing) {
            int last = address + n - 1 & ADDRESS_BITS;
            fail(memory.refusal(address, writing, psw.protectionKey()));
            fail(memory.refusal(last, writing, psw.protectionKey()));
        }

        void demandAligned(int address, int n) {
            if ((address & (n - 1)) != 0) {
                fail(NOT_AS_SPECIFIED);
            }
        }

        void demandEven(int k) {
            if ((k & 1) != 0) {
                fail(NOT_AS_SPECIFIED);
            }
        }

        void demandSupervisor() {
            if (psw.has(Psw.PROBLEM)) {
                fail(SUPERVISOR_ALONE);
            }
        }

        void conditionByNumber(long v) {
            psw.setCondition(v == 0 ? 0 : v < 0 ? 1 : 2);
        }

        void conditionByComparing(long x, long y) {
            psw.setCondition(x == y ? 0 : x < y ? 1 : 2);
        }

        void conditionByBits(int v) {
            psw.setCondition(v == 0 ? 0 : 1);
        }

        void overflow(int maskBit, int exception) {
            psw.setCondition(3);
            if (psw.has(maskBit)) {
                fail(exception);
            }
        }
    }

    /** The instruction that is being done, with its addresses made. */
    private static final class Instruction {
        private final Machine machine;
        private final Memory memory;
        private int operation;
        private int i;
        private int r;
        private int s;
        private int a;
        private int b;

        Instruction(Machine machine) {
            this.machine = machine;
            memory = machine.memory;
        }

        void demandFirstHalf(int at) {
            machine.demand(at, 2, READING);
            machine.demandAligned(at, 2);
        }

        int halvesAt(int at) {
            int kind = memory.get(at) >> 6;
            return kind == 0 ? 1 : kind == 3 ? 3 : 2;
        }

        /** 0x44 joins a byte to the second one without changing memory. */
        void take(int at, int joined) {
            int halves = halvesAt(at);
            machine.demand(at, 2 * halves, READING);
            operation = memory.get(at);
            i = memory.get(at + 1) | joined;
            r = i >> 4;
            s = i & 15;
            a = halves > 1 ? baseAndDisplacement(at + 2) : 0;
            b = halves > 2 ? baseAndDisplacement(at + 4) : 0;
            if (operation >= 0x40 && operation <= 0x5F) {
                a = a + unlessZero(s) & ADDRESS_BITS;
            }
        }

        private int baseAndDisplacement(int at) {
            int half = memory.half(at);
            return (half & 0xFFF) + unlessZero(half >> 12 & 15) & ADDRESS_BITS;
        }

        private int unlessZero(int k) {
            return k == 0 ? 0 : machine.reg(k);
        }
    }

    /** Numbers in registers, halves and words: moves, sums, products, comparisons and bits. */
    private static final class Words {
        private static final long UNSIGNED = 0xFFFFFFFFL;

        private final Machine machine;
        private final Instruction instruction;

        Words(Machine machine, Instruction instruction) {
            this.machine = machine;
            this.instruction = instruction;
        }

        void withSign(int v) {
            switch (instruction.operation) {
                case 0x10: signed(Math.abs((long) v)); break;
                case 0x11: signed(-Math.abs((long) v)); break;
                case 0x12: signed(v); break;
                default: signed(-(long) v); break;
            }
        }

        void combineWord() {
            demandOperand(4, READING);
            if (machine.fine()) {
                combine(machine.memory.word(instruction.a));
            }
        }

        void combineHalf() {
            demandOperand(2, READING);
            if (machine.fine()) {
                combine(machine.memory.half(instruction.a));
            }
        }

        /** The last half of the operation tells the same of registers, words and halves. */
        void combine(int v) {
            int old = machine.reg(instruction.r);
            switch (instruction.operation & 15) {
                case 0x4: bits(old & v); break;
                case 0x5: machine.conditionByComparing(old & UNSIGNED, v & UNSIGNED); break;
                case 0x6: bits(old | v); break;
                case 0x7: bits(old ^ v); break;
                case 0x8: machine.setReg(instruction.r, v); break;
                case 0x9: machine.conditionByComparing(old, v); break;
                case 0xA: signed((long) old + v); break;
                case 0xB: signed((long) old - v); break;
                case 0xC: multiply(v); break;
                case 0xD: divide(v); break;
                case 0xE: unsigned((old & UNSIGNED) + (v & UNSIGNED)); break;
                default: unsigned((old & UNSIGNED) + (~v & UNSIGNED) + 1); break;
            }
        }

        private void bits(int v) {
            machine.setReg(instruction.r, v);
            machine.conditionByBits(v);
        }

        private void signed(long v) {
            machine.setReg(instruction.r, (int) v);
            if (v == (int) v) {
                machine.conditionByNumber(v);
            } else {
                machine.overflow(Psw.FIXED_MASK, FIXED_OVERFLOW);
            }
        }

        private void unsigned(long v) {
            machine.setReg(instruction.r, (int) v);
            int carry = v > UNSIGNED ? 2 : 0;
            machine.psw.setCondition((int) v == 0 ? carry : carry + 1);
        }

        private void multiply(int v) {
            machine.demandEven(instruction.r);
            if (machine.fine()) {
                machine.setPair(instruction.r, (long) machine.reg(instruction.r + 1) * v);
            }
        }

        void multiplyHalf() {
            demandOperand(2, READING);
            if (machine.fine()) {
                int v = machine.memory.half(instruction.a);
                machine.setReg(instruction.r, machine.reg(instruction.r) * v);
            }
        }

        private void divide(int v) {
            machine.demandEven(instruction.r);
            long dividend = machine.pair(instruction.r);
            // What is no word stands for the quotient by 0, which is none either.
            long quotient = v == 0 ? Long.MAX_VALUE : dividend / v;
            if (quotient != (int) quotient) {
                machine.fail(NO_FIXED_QUOTIENT);
            }
            if (machine.fine()) {
                machine.setReg(instruction.r, (int) (dividend - quotient * v));
                machine.setReg(instruction.r + 1, (int) quotient);
            }
        }

        void store(int n) {
            demandOperand(n, WRITING);
            if (machine.fine()) {
                machine.memory.setNumber(instruction.a, machine.reg(instruction.r), n);
            }
        }

        void insertByte() {
            demandOperand(1, READING);
            if (machine.fine()) {
                machine.setLastByte(instruction.r, machine.memory.get(instruction.a));
            }
        }

        private void demandOperand(int n, boolean writing) {
            machine.demand(instruction.a, n, writing);
            machine.demandAligned(instruction.a, n);
        }

        void loadMany() {
            int count = demandMany(READING);
            for (int k = 0; k < count && machine.fine(); k++) {
                machine.setReg(instruction.r + k, machine.memory.word(instruction.a + 4 * k));
            }
        }

        void storeMany() {
            int count = demandMany(WRITING);
            for (int k = 0; k < count && machine.fine(); k++) {
                machine.memory.setNumber(instruction.a + 4 * k, machine.reg(instruction.r + k), 4);
            }
        }

        /** Answers how many registers there are from r to s. */
        private int demandMany(boolean writing) {
            int count = (instruction.s - instruction.r & 15) + 1;
            machine.demand(instruction.a, 4 * count, writing);
            machine.demandAligned(instruction.a, 4);
            return count;
        }
    }

    /** 0x88 to 0x8F. */
    private static final class Shifts {
        private final Machine machine;
        private final Instruction instruction;

        Shifts(Machine machine, Instruction instruction) {
            this.machine = machine;
            this.instruction = instruction;
        }

        /** A word is shifted within a long, as Java shifts an int by no more than 31. */
        void shiftWord() {
            int n = instruction.a & 63;
            int old = machine.reg(instruction.r);
            switch (instruction.operation) {
                case 0x88: machine.setReg(instruction.r, (int) ((old & 0xFFFFFFFFL) >>> n)); break;
                case 0x89: machine.setReg(instruction.r, (int) ((long) old << n)); break;
                case 0x8A: setWord((int) ((long) old >> n)); break;
                default: shiftWordLeft((long) old << 32, n); break;
            }
        }

        void shiftDouble() {
            machine.demandEven(instruction.r);
            if (!machine.fine()) {
                return;
            }
            int n = instruction.a & 63;
            long old = machine.pair(instruction.r);
            switch (instruction.operation) {
                case 0x8C: machine.setPair(instruction.r, old >>> n); break;
                case 0x8D: machine.setPair(instruction.r, old << n); break;
                case 0x8E: setDouble(old >> n); break;
                default: shiftDoubleLeft(old, n); break;
            }
        }

        /** In the upper half of a long, a word goes out on the left as a double does. */
        private void shiftWordLeft(long upper, int n) {
            setWord((int) (shiftedKeepingSign(upper, n) >> 32));
            overflowIfLost(upper, n);
        }

        private void shiftDoubleLeft(long old, int n) {
            setDouble(shiftedKeepingSign(old, n));
            overflowIfLost(old, n);
        }

        private static long shiftedKeepingSign(long v, int n) {
            return v & Long.MIN_VALUE | v << n & Long.MAX_VALUE;
        }

        private void overflowIfLost(long v, int n) {
            boolean kept = true;
            long rest = v;
            for (int k = 0; k < n; k++) {
                rest = rest << 1;
                kept = kept && (rest < 0) == (v < 0);
            }
            if (!kept) {
                machine.overflow(Psw.FIXED_MASK, FIXED_OVERFLOW);
            }
        }

        private void setWord(int v) {
            machine.setReg(instruction.r, v);
            machine.conditionByNumber(v);
        }

        private void setDouble(long v) {
            machine.setPair(instruction.r, v);
            machine.conditionByNumber(v);
        }
    }

    /** Branches, and what changes or tells the status and the keys alone. */
    private static final class Control {
        private final Machine machine;
        private final Instruction instruction;

        Control(Machine machine, Instruction instruction) {
            this.machine = machine;
            this.instruction = instruction;
        }

        void branchAndLink(boolean goes, int target) {
            machine.setReg(instruction.r, (int) machine.psw.word);
            goOnAtIf(goes, target);
        }

        void branchOnCount(boolean goes, int target) {
            int left = machine.reg(instruction.r) - 1;
            machine.setReg(instruction.r, left);
            goOnAtIf(goes && left != 0, target);
        }

        void branchOnCondition(boolean goes, int target) {
            boolean chosen = (instruction.r << machine.psw.condition() & 8) != 0;
            goOnAtIf(goes && chosen, target);
        }

        void branchOnIndex(boolean ifGreater) {
            int bound = machine.reg(instruction.s | 1);
            int grown = machine.reg(instruction.r) + machine.reg(instruction.s);
            machine.setReg(instruction.r, grown);
            goOnAtIf(grown > bound == ifGreater, instruction.a);
        }

        private void goOnAtIf(boolean goes, int target) {
            if (goes) {
                machine.psw.setAddress(target);
            }
        }

        void setProgramMask() {
            machine.psw.setConditionAndProgramMask(machine.reg(instruction.r) >> 24);
        }

        void setKey() {
            int block = demandBlock();
            if (machine.fine()) {
                machine.memory.setBlockKey(block, machine.reg(instruction.r) >> 3 & 31);
            }
        }

        void insertKey() {
            int block = demandBlock();
            if (machine.fine()) {
                machine.setLastByte(instruction.r, machine.memory.blockKey(block) << 3);
            }
        }

        private int demandBlock() {
            int address = machine.reg(instruction.s) & ADDRESS_BITS;
            machine.demandSupervisor();
            machine.demandAligned(address, 16);
            // Keys are no bytes, so none of them is protected.
            if (address >= SIZE) {
                machine.fail(NO_SUCH_ADDRESS);
            }
            return address / BLOCK_SIZE;
        }

        void setSystemMask() {
            machine.demandSupervisor();
            machine.demand(instruction.a, 1, READING);
            if (machine.fine()) {
                machine.psw.setSystemMask(machine.memory.get(instruction.a));
            }
        }

        void loadStatus() {
            machine.demandSupervisor();
            machine.demand(instruction.a, 8, READING);
            machine.demandAligned(instruction.a, 8);
            if (machine.fine()) {
                machine.psw.become(machine.memory.number(instruction.a, 8));
            }
        }
    }

    /** Bytes with a byte of the instruction, and strings of bytes. */
    private static final class Strings {
        private final Machine machine;
        private final Instruction instruction;
        private final Memory memory;

        Strings(Machine machine, Instruction instruction) {
            this.machine = machine;
            this.instruction = instruction;
            memory = machine.memory;
        }

        void testByte() {
            machine.demand(instruction.a, 1, READING);
            if (!machine.fine()) {
                return;
            }
            int v = memory.get(instruction.a);
            if (instruction.operation == 0x95) {
                machine.conditionByComparing(v, instruction.i);
            } else {
                int chosen = v & instruction.i;
                machine.psw.setCondition(chosen == 0 ? 0 : chosen == instruction.i ? 3 : 1);
            }
        }

        void changeByte() {
            machine.demand(instruction.a, 1, WRITING);
            if (!machine.fine()) {
                return;
            }
            int old = memory.get(instruction.a);
            switch (instruction.operation) {
                case 0x92: memory.set(instruction.a, instruction.i); break;
                case 0x93: testAndSet(old); break;
                case 0x94: setByBits(old & instruction.i); break;
                case 0x96: setByBits(old | instruction.i); break;
                default: setByBits(old ^ instruction.i); break;
            }
        }

        private void testAndSet(int old) {
            machine.psw.setCondition(old >> 7);
            memory.set(instruction.a, 255);
        }

        private void setByBits(int v) {
            memory.set(instruction.a, v);
            machine.conditionByBits(v);
        }

        void compare() {
            int n = demandBoth(READING);
            int x = 0;
            int y = 0;
            for (int k = 0; k < n && x == y && machine.fine(); k++) {
                x = memory.get(instruction.a + k);
                y = memory.get(instruction.b + k);
            }
            if (machine.fine()) {
                machine.conditionByComparing(x, y);
            }
        }

        void change() {
            int n = demandBoth(WRITING);
            int all = 0;
            for (int k = 0; k < n && machine.fine(); k++) {
                int v = joined(memory.get(instruction.a + k), memory.get(instruction.b + k));
                memory.set(instruction.a + k, v);
                all |= v;
            }
            if (machine.fine() && instruction.operation >= 0xD4) {
                machine.conditionByBits(all);
            }
        }

        /** Answers how many bytes there are. */
        private int demandBoth(boolean writing) {
            int n = instruction.i + 1;
            machine.demand(instruction.a, n, writing);
            machine.demand(instruction.b, n, READING);
            return n;
        }

        private int joined(int x, int y) {
            switch (instruction.operation) {
                case 0xD1: return x & 0xF0 | y & 0x0F;
                case 0xD2: return y;
                case 0xD3: return x & 0x0F | y & 0xF0;
                case 0xD4: return x & y;
                case 0xD6: return x | y;
                default: return x ^ y;
            }
        }

        void translate() {
            int n = demandTold(WRITING);
            for (int k = 0; k < n && machine.fine(); k++) {
                memory.set(instruction.a + k, memory.get(toldBy(instruction.a + k)));
            }
        }

        void translateAndTest() {
            int n = demandTold(READING);
            if (!machine.fine()) {
                return;
            }
            int found = 0;
            int at = 0;
            for (int k = 0; k < n && found == 0; k++) {
                at = k;
                found = memory.get(toldBy(instruction.a + k));
            }
            if (found != 0) {
                machine.setLastAddress(1, instruction.a + at);
                machine.setLastByte(2, found);
            }
            machine.psw.setCondition(found == 0 ? 0 : at == n - 1 ? 2 : 1);
        }

        /**
         * Answers how many bytes there are at a. Those beyond memory tell nothing at b, but the others
         * still do: what they tell may be the lesser exception.
         */
        private int demandTold(boolean writing) {
            int n = instruction.i + 1;
            machine.demand(instruction.a, n, writing);
            for (int k = 0; k < n; k++) {
                int at = instruction.a + k & ADDRESS_BITS;
                if (at < SIZE) {
                    machine.demand(toldBy(at), 1, READING);
                }
            }
            return n;
        }

        private int toldBy(int address) {
            return instruction.b + memory.get(address) & ADDRESS_BITS;
        }
    }

    /** A decimal number, its lowest digit first; 32 digits have room for the sum of any two. */
    private static final class Decimal {
        private static final int ROOM = 32;

        private final int[] digits = new int[ROOM];
        private boolean below;

        static boolean isSign(int half) {
            return half > 9;
        }

        static boolean isSignBelow(int half) {
            return half == 0xB || half == 0xD;
        }

        /** Whether n bytes are a decimal; then it is this one. */
        boolean take(Memory memory, int address, int n) {
            int last = address + n - 1;
            int sign = memory.get(last) & 15;
            boolean good = isSign(sign);
            below = isSignBelow(sign);
            Arrays.fill(digits, 0);
            for (int k = 0; k < 2 * n - 1 && k < ROOM; k++) {
                int both = memory.get(last - (k + 1) / 2);
                digits[k] = k % 2 == 0 ? both >> 4 : both & 15;
                good = good && digits[k] <= 9;
            }
            return good;
        }

        /** The lowest digits go into n bytes. */
        void give(Memory memory, int address, int n) {
            int last = address + n - 1;
            memory.set(last, digit(0) << 4 | (below ? 0xD : 0xC));
            for (int k = 1; k < n; k++) {
                memory.set(last - k, digit(2 * k) << 4 | digit(2 * k - 1));
            }
        }

        private int digit(int k) {
            return k >= 0 && k < ROOM ? digits[k] : 0;
        }

        boolean isLongerThan(int n) {
            boolean longer = false;
            for (int k = Math.max(n, 0); k < ROOM; k++) {
                longer = longer || digits[k] != 0;
            }
            return longer;
        }

        /** -1, 0 or 1. */
        int sign() {
            return !isLongerThan(0) ? 0 : below ? -1 : 1;
        }

        void setNumber(long v) {
            below = v < 0;
            long rest = v;
            for (int k = 0; k < ROOM; k++) {
                digits[k] = (int) Math.abs(rest % 10);
                rest = rest / 10;
            }
        }

        /** Without sign, of a number of at most 8 bytes. */
        long size() {
            long v = 0;
            for (int k = 14; k >= 0; k--) {
                v = v * 10 + digits[k];
            }
            return v;
        }

        /** A sum that is 0 is not below it, whatever signs it came from. */
        void add(Decimal other) {
            if (below == other.below) {
                combine(1, other, 1);
            } else if (isSmallerThan(other)) {
                combine(-1, other, 1);
                below = other.below;
            } else {
                combine(1, other, -1);
            }
            below = below && isLongerThan(0);
        }

        private boolean isSmallerThan(Decimal other) {
            int order = 0;
            for (int k = 0; k < ROOM; k++) {
                order = digits[k] == other.digits[k] ? order : digits[k] - other.digits[k];
            }
            return order < 0;
        }

        private void combine(int factor, Decimal other, int otherFactor) {
            int carry = 0;
            for (int k = 0; k < ROOM; k++) {
                int v = factor * digits[k] + otherFactor * other.digits[k] + carry;
                digits[k] = Math.floorMod(v, 10);
                carry = Math.floorDiv(v, 10);
            }
        }

        /** The factor has at most 15 digits, so a long has room for every carry. */
        void multiply(long factor) {
            long carry = 0;
            for (int k = 0; k < ROOM; k++) {
                long v = digits[k] * factor + carry;
                digits[k] = (int) (v % 10);
                carry = v / 10;
            }
        }

        /** This becomes the quotient; answers the rest. The divisor has at most 15 digits. */
        long divide(long divisor) {
            if (divisor <= 0) {
                return 0;
            }
            long rest = 0;
            for (int k = ROOM - 1; k >= 0; k--) {
                rest = rest * 10 + digits[k];
                digits[k] = (int) (rest / divisor);
                rest = rest % divisor;
            }
            return rest;
        }
    }

    /** The operations on decimals: 0x4E, 0x4F and 0xF1 to 0xFD. */
    private static final class Decimals {
        private final Machine machine;
        private final Instruction instruction;
        private final Memory memory;
        private final Decimal first;
        private final Decimal second;
        private final int[] source;
        private int firstBytes;
        private int secondBytes;

        Decimals(Machine machine, Instruction instruction) {
            this.machine = machine;
            this.instruction = instruction;
            memory = machine.memory;
            first = new Decimal();
            second = new Decimal();
            source = new int[16];
        }

        void fromRegister() {
            machine.demand(instruction.a, 8, WRITING);
            machine.demandAligned(instruction.a, 8);
            if (machine.fine()) {
                first.setNumber(machine.reg(instruction.r));
                first.give(memory, instruction.a, 8);
            }
        }

        void toRegister() {
            machine.demand(instruction.a, 8, READING);
            machine.demandAligned(instruction.a, 8);
            if (machine.fine() && !first.take(memory, instruction.a, 8)) {
                machine.fail(NOT_DECIMAL);
            }
            if (!machine.fine()) {
                return;
            }
            long v = first.below ? -first.size() : first.size();
            if (v == (int) v) {
                machine.setReg(instruction.r, (int) v);
            } else {
                machine.fail(NO_FIXED_QUOTIENT);
            }
        }

        private void demandBoth(boolean writing) {
            firstBytes = instruction.r + 1;
            secondBytes = instruction.s + 1;
            machine.demand(instruction.a, firstBytes, writing);
            machine.demand(instruction.b, secondBytes, READING);
        }

        /** The bytes at b are kept before one is written, as they may lie among those at a. */
        void move() {
            demandBoth(WRITING);
            if (!machine.fine()) {
                return;
            }
            for (int k = 0; k < secondBytes; k++) {
                source[k & 15] = memory.get(instruction.b + secondBytes - 1 - k);
            }
            int last = instruction.a + firstBytes - 1;
            int lastHalf = memory.get(last) & 15;
            for (int k = 0; k < firstBytes; k++) {
                memory.set(last - k, moved(k, lastHalf));
            }
        }

        /** The byte that comes k before the last one. */
        private int moved(int k, int lastHalf) {
            if (instruction.operation == 0xF1) {
                return sourceHalf(2 * k) << 4 | (k == 0 ? lastHalf : sourceHalf(2 * k - 1));
            }
            if (k == 0) {
                return sourceHalf(0) << 4 | sourceHalf(1);
            }
            if (instruction.operation == 0xF2) {
                return sourceHalf(4 * k) << 4 | sourceHalf(4 * k - 2);
            }
            return 0xF0 | sourceHalf(k + 1);
        }

        /** The half that comes k before the last one; 0 where there is none. */
        private int sourceHalf(int k) {
            if (k / 2 >= secondBytes) {
                return 0;
            }
            int both = source[k / 2 & 15];
            return k % 2 == 0 ? both & 15 : both >> 4;
        }

        void combine() {
            boolean comparing = instruction.operation == 0xF9;
            boolean replacing = instruction.operation == 0xF8;
            demandBoth(comparing ? READING : WRITING);
            takeBoth(replacing);
            if (!machine.fine()) {
                return;
            }
            if (replacing) {
                first.setNumber(0);
            }
            if (comparing || instruction.operation == 0xFB) {
                second.below = !second.below;
            }
            first.add(second);
            if (comparing) {
                machine.conditionByNumber(first.sign());
            } else {
                giveFirst();
            }
        }

        /** All is read before anything is written, as both may share bytes. */
        private void takeBoth(boolean firstMayBeNone) {
            if (!machine.fine()) {
                return;
            }
            boolean firstGood = first.take(memory, instruction.a, firstBytes);
            boolean secondGood = second.take(memory, instruction.b, secondBytes);
            if (!secondGood || !firstGood && !firstMayBeNone) {
                machine.fail(NOT_DECIMAL);
            }
        }

        private void giveFirst() {
            first.give(memory, instruction.a, firstBytes);
            if (first.isLongerThan(2 * firstBytes - 1)) {
                machine.overflow(Psw.DECIMAL_MASK, DECIMAL_OVERFLOW);
            } else {
                machine.conditionByNumber(first.sign());
            }
        }

        void multiplyOrDivide() {
            demandBoth(WRITING);
            if (secondBytes > 8 || secondBytes >= firstBytes) {
                machine.fail(NOT_AS_SPECIFIED);
            }
            takeBoth(false);
            if (!machine.fine()) {
                return;
            }
            if (instruction.operation == 0xFC) {
                multiply();
            } else {
                divide();
            }
        }

        private void multiply() {
            if (first.isLongerThan(2 * (firstBytes - secondBytes) - 1)) {
                machine.fail(NOT_DECIMAL);
                return;
            }
            first.multiply(second.size());
            first.below = first.below != second.below;
            first.give(memory, instruction.a, firstBytes);
        }

        private void divide() {
            int quotientBytes = firstBytes - secondBytes;
            boolean restBelow = first.below;
            boolean dividing = second.sign() != 0;
            long rest = first.divide(second.size());
            if (!dividing || first.isLongerThan(2 * quotientBytes - 1)) {
                machine.fail(NO_DECIMAL_QUOTIENT);
                return;
            }
            first.below = first.below != second.below;
            first.give(memory, instruction.a, quotientBytes);
            second.setNumber(rest);
            second.below = restBelow;
            second.give(memory, instruction.a + quotientBytes, secondBytes);
        }
    }

    /** 0xDE and 0xDF: digits are brought into a pattern. */
    private static final class Editor {
        private static final int NONE = -1;
        private static final int DIGIT = 0x20;
        private static final int DIGIT_AND_ON = 0x21;
        private static final int FIELD_END = 0x22;

        private final Machine machine;
        private final Instruction instruction;
        private final Memory memory;
        private final int[] made;
        private int fill;
        private boolean on;
        private boolean fieldNotZero;
        private int next;
        private int secondHalf;
        private boolean signAbove;
        private int mark;

        Editor(Machine machine, Instruction instruction) {
            this.machine = machine;
            this.instruction = instruction;
            memory = machine.memory;
            made = new int[256];
        }

        /** All bytes are made before one is written: digits may lie in the pattern, or be none. */
        void edit(boolean marking) {
            int n = instruction.i + 1;
            machine.demand(instruction.a, n, WRITING);
            begin();
            for (int k = 0; k < n && machine.fine(); k++) {
                made[k & 255] = edited(instruction.a + k);
            }
            if (!machine.fine()) {
                return;
            }
            for (int k = 0; k < n; k++) {
                memory.set(instruction.a + k, made[k & 255]);
            }
            if (marking && mark != NONE) {
                machine.setLastAddress(1, mark);
            }
            machine.psw.setCondition(!fieldNotZero ? 0 : on ? 1 : 2);
        }

        private void begin() {
            fill = memory.get(instruction.a);
            on = false;
            fieldNotZero = false;
            next = instruction.b;
            secondHalf = NONE;
            mark = NONE;
        }

        private int edited(int address) {
            int pattern = memory.get(address);
            if (pattern == DIGIT || pattern == DIGIT_AND_ON) {
                return withDigit(address, pattern, nextDigit());
            }
            if (pattern == FIELD_END) {
                on = false;
                fieldNotZero = false;
                return fill;
            }
            return on ? pattern : fill;
        }

        private int nextDigit() {
            signAbove = false;
            if (secondHalf != NONE) {
                int digit = secondHalf;
                secondHalf = NONE;
                return digit;
            }
            machine.demand(next, 1, READING);
            int both = memory.get(next);
            next = next + 1 & ADDRESS_BITS;
            if (both >> 4 > 9) {
                machine.fail(NOT_DECIMAL);
            }
            if (Decimal.isSign(both & 15)) {
                signAbove = !Decimal.isSignBelow(both & 15);
            } else {
                secondHalf = both & 15;
            }
            return both >> 4;
        }

        private int withDigit(int address, int pattern, int digit) {
            boolean wasOn = on;
            on = (on || pattern == DIGIT_AND_ON || digit != 0) && !signAbove;
            fieldNotZero = fieldNotZero || digit != 0;
            if (!wasOn && digit == 0) {
                return fill;
            }
            if (!wasOn) {
                mark = address;
            }
            return 0xF0 | digit;
        }
    }
}
