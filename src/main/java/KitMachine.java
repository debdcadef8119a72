/**
 * A kit of an eight-bit processor with memory, a parallel chip of two sides and a serial chip.
 * It runs whatever program lies in its memory, with interrupts of both chips.
 */
public final class KitMachine {
    public static final int NONE = -1;

    private static final int MOST_STEPS = 3000;

    private final SerialChip serialChip;
    private final Side leftSide;
    private final Side rightSide;
    private final Bus bus;
    private final Processor processor;

    public KitMachine() {
        serialChip = new SerialChip();
        leftSide = new Side(true);
        rightSide = new Side(false);
        bus = new Bus(leftSide, rightSide, serialChip);
        processor = new Processor(bus);
    }

    public boolean put(int address, int v) {
        // Both parts of memory are longer than four bytes, so the two ends speak for those between.
        if (!bus.isMemory(address) || !bus.isMemory(address + 3)) {
            return false;
        }
        for (int i = 0; i < 4; i++) {
            bus.store(address + i, v >> (24 - 8 * i) & 0xFF);
        }
        return true;
    }

    public int peek(int address) {
        return bus.isMemory(address) ? bus.read(address) : NONE;
    }

    public void reset() {
        processor.restart();
    }

    public int run(int n) {
        if (n < 0 || n > MOST_STEPS) {
            return NONE;
        }
        int done = 0;
        while (done < n && !processor.stopped) {
            serialChip.passTime();
            processor.act(serialChip.asks() || leftSide.asks() || rightSide.asks());
            leftSide.endStep();
            rightSide.endStep();
            done++;
        }
        return done;
    }

    public int register(int what) {
        switch (what) {
            case 0:
                return processor.a;
            case 1:
                return processor.b;
            case 2:
                return processor.x;
            case 3:
                return processor.s;
            case 4:
                return processor.p;
            case 5:
                return processor.flags.bits;
            case 6:
                return processor.waiting ? 1 : 0;
            case 7:
                return processor.stopped ? 1 : 0;
            default:
                return NONE;
        }
    }

    public boolean receive(int b) {
        return serialChip.takeOnLine(b & 0xFF);
    }

    public int sent() {
        return serialChip.sentCount;
    }

    public int sentByte(int i) {
        return serialChip.sentAt(i);
    }

    public boolean pins(int side, int v) {
        Side chosen = sideOf(side);
        if (chosen == null) {
            return false;
        }
        chosen.input = v & 0xFF;
        return true;
    }

    public boolean line(int side, int line, boolean high) {
        Side chosen = sideOf(side);
        if (chosen == null) {
            return false;
        }
        int level = high ? 1 : 0;
        if (line == 1) {
            chosen.setFirstLine(level);
            return true;
        }
        if (line != 2 || chosen.secondLineIsOutput()) {
            return false;
        }
        chosen.setSecondLine(level);
        return true;
    }

    public int port(int side, int what) {
        Side chosen = sideOf(side);
        if (chosen == null) {
            return NONE;
        }
        switch (what) {
            case 0:
                return chosen.output & chosen.direction;
            case 1:
                return chosen.direction;
            case 2:
                return chosen.control;
            case 3:
                return chosen.firstLine;
            case 4:
                return chosen.secondLine;
            case 5:
                return chosen.input;
            default:
                return NONE;
        }
    }

    public int serial(int what) {
        switch (what) {
            case 0:
                return serialChip.status();
            case 1:
                return serialChip.lastReceived;
            case 2:
                return serialChip.lineCount;
            case 3:
                return serialChip.stepsIn;
            case 4:
                return serialChip.stepsOut;
            default:
                return NONE;
        }
    }

    private Side sideOf(int side) {
        if (side == 0) {
            return leftSide;
        }
        return side == 1 ? rightSide : null;
    }

    /** What the processor finds at each of the 65536 addresses. */
    private static final class Bus {
        private static final int PART_SIZE = 1024;
        private static final int READ_ONLY_START = 64512;
        private static final int LEFT_DATA = 8192;
        private static final int LEFT_CONTROL = 8193;
        private static final int RIGHT_DATA = 8194;
        private static final int RIGHT_CONTROL = 8195;
        private static final int SERIAL_CONTROL = 8448;
        private static final int SERIAL_DATA = 8449;

        private final int[] free;
        private final int[] readOnly;
        private final Side leftSide;
        private final Side rightSide;
        private final SerialChip serialChip;

        Bus(Side leftSide, Side rightSide, SerialChip serialChip) {
            this.free = new int[PART_SIZE];
            this.readOnly = new int[PART_SIZE];
            this.leftSide = leftSide;
            this.rightSide = rightSide;
            this.serialChip = serialChip;
        }

        boolean isMemory(int address) {
            return isFree(address) || isReadOnly(address);
        }

        private boolean isFree(int address) {
            return address >= 0 && address < PART_SIZE;
        }

        private boolean isReadOnly(int address) {
            return address >= READ_ONLY_START && address < READ_ONLY_START + PART_SIZE;
        }

        /** Changes memory of both parts, as no program can. */
        void store(int address, int v) {
            if (isFree(address)) {
                free[address] = v;
            } else if (isReadOnly(address)) {
                readOnly[address - READ_ONLY_START] = v;
            }
        }

        int read(int address) {
            int at = address & 0xFFFF;
            switch (at) {
                case LEFT_DATA:
                    return leftSide.readData();
                case LEFT_CONTROL:
                    return leftSide.control;
                case RIGHT_DATA:
                    return rightSide.readData();
                case RIGHT_CONTROL:
                    return rightSide.control;
                case SERIAL_CONTROL:
                    return serialChip.status();
                case SERIAL_DATA:
                    return serialChip.readData();
                default:
                    if (isFree(at)) {
                        return free[at];
                    }
                    return isReadOnly(at) ? readOnly[at - READ_ONLY_START] : 0;
            }
        }

        void write(int address, int v) {
            int at = address & 0xFFFF;
            switch (at) {
                case LEFT_DATA:
                    leftSide.writeData(v);
                    break;
                case LEFT_CONTROL:
                    leftSide.writeControl(v);
                    break;
                case RIGHT_DATA:
                    rightSide.writeData(v);
                    break;
                case RIGHT_CONTROL:
                    rightSide.writeControl(v);
                    break;
                case SERIAL_CONTROL:
                    serialChip.writeControl(v);
                    break;
                case SERIAL_DATA:
                    serialChip.writeData(v);
                    break;
                default:
                    if (isFree(at)) {
                        free[at] = v;
                    }
                    break;
            }
        }

        int readWord(int address) {
            // Reading a chip changes it, so the order of the two reads is kept apart from the sum.
            int high = read(address);
            int low = read(address + 1);
            return high << 8 | low;
        }

        void writeWord(int address, int v) {
            write(address, v >> 8 & 0xFF);
            write(address + 1, v & 0xFF);
        }
    }

    /** The six flags, and how a result is told by them. */
    private static final class Flags {
        static final int C = 1;
        static final int V = 2;
        static final int Z = 4;
        static final int N = 8;
        static final int I = 16;
        static final int H = 32;

        private static final int ALL = 63;
        private static final int UNUSED = 192;

        int bits;

        boolean has(int flag) {
            return (bits & flag) != 0;
        }

        void tell(int flag, boolean on) {
            bits = on ? bits | flag : bits & ~flag;
        }

        int asByte() {
            return bits | UNUSED;
        }

        void takeByte(int v) {
            bits = v & ALL;
        }

        /** The document's "nz" of 8 bits: V stays. */
        void tellSignAndZero(int result) {
            tell(N, (result & 0x80) != 0);
            tell(Z, result == 0);
        }

        /** The document's "nz" of 16 bits: V stays. */
        void tellWordSignAndZero(int result) {
            tell(N, (result & 0x8000) != 0);
            tell(Z, result == 0);
        }
    }

    /** What is done to numbers, each result being told by the flags. */
    private static final class Arithmetic {
        static final int DIGIT_TEST = 13;
        static final int DIGIT_CLEAR = 15;

        private final Flags flags;

        Arithmetic(Flags flags) {
            this.flags = flags;
        }

        private int carry() {
            return flags.bits & Flags.C;
        }

        /** The operation of 80 .. FF that the lowest digit names: what the accumulator becomes. */
        int combined(int digit, int held, int m) {
            switch (digit) {
                case 0:
                    return difference(held, m, 0);
                case 1:
                    difference(held, m, 0);
                    return held;
                case 2:
                    return difference(held, m, carry());
                case 4:
                    return told(held & m);
                case 5:
                    told(held & m);
                    return held;
                case 6:
                    return told(m);
                case 8:
                    return told(held ^ m);
                case 9:
                    return sum(held, m, carry());
                case 10:
                    return told(held | m);
                case 11:
                    return sum(held, m, 0);
                default:
                    return held;
            }
        }

        /** The operation of 40 .. 7F that the lowest digit names: what M becomes. */
        int changed(int digit, int m) {
            switch (digit) {
                case 0:
                    return negated(m);
                case 3:
                    flags.tell(Flags.C, true);
                    return told(m ^ 0xFF);
                case 4:
                    return shifted(m >> 1, m & 1);
                case 6:
                    return shifted(m >> 1 | carry() << 7, m & 1);
                case 7:
                    return shifted(m >> 1 | m & 0x80, m & 1);
                case 8:
                    return shifted(m << 1 & 0xFF, m >> 7);
                case 9:
                    return shifted(m << 1 & 0xFF | carry(), m >> 7);
                case 10:
                    return counted(m - 1 & 0xFF, m == 128);
                case 12:
                    return counted(m + 1 & 0xFF, m == 127);
                case DIGIT_TEST:
                    flags.tell(Flags.C, false);
                    return told(m);
                case DIGIT_CLEAR:
                    flags.tell(Flags.C, false);
                    return told(0);
                default:
                    return m;
            }
        }

        /** The document's "NZ" of 8 bits. */
        int told(int result) {
            flags.tellSignAndZero(result);
            flags.tell(Flags.V, false);
            return result;
        }

        /** The document's "NZ" of 16 bits. */
        int toldWord(int result) {
            flags.tellWordSignAndZero(result);
            flags.tell(Flags.V, false);
            return result;
        }

        int sum(int held, int m, int carryIn) {
            int whole = held + m + carryIn;
            int result = whole & 0xFF;
            flags.tell(Flags.H, (held & 15) + (m & 15) + carryIn > 15);
            flags.tellSignAndZero(result);
            flags.tell(Flags.V, ((held ^ result) & (m ^ result) & 0x80) != 0);
            flags.tell(Flags.C, whole > 0xFF);
            return result;
        }

        int difference(int held, int m, int borrow) {
            int whole = held - m - borrow;
            int result = whole & 0xFF;
            flags.tellSignAndZero(result);
            flags.tell(Flags.V, ((held ^ m) & (held ^ result) & 0x80) != 0);
            flags.tell(Flags.C, whole < 0);
            return result;
        }

        void compareWords(int held, int m) {
            int result = held - m & 0xFFFF;
            flags.tellWordSignAndZero(result);
            flags.tell(Flags.V, ((held ^ m) & (held ^ result) & 0x8000) != 0);
        }

        int decimalAdjusted(int held) {
            int upper = held >> 4;
            int lower = held & 15;
            boolean upperWrong = upper > 9 || flags.has(Flags.C) || upper == 9 && lower > 9;
            int result = held;
            if (lower > 9 || flags.has(Flags.H)) {
                result += 6;
            }
            if (upperWrong) {
                result += 96;
                flags.tell(Flags.C, true);
            }
            return told(result & 0xFF);
        }

        private int negated(int m) {
            int result = -m & 0xFF;
            flags.tellSignAndZero(result);
            flags.tell(Flags.V, result == 128);
            flags.tell(Flags.C, result != 0);
            return result;
        }

        private int shifted(int result, int bitOut) {
            flags.tell(Flags.C, bitOut != 0);
            flags.tellSignAndZero(result);
            flags.tell(Flags.V, flags.has(Flags.N) != flags.has(Flags.C));
            return result;
        }

        private int counted(int result, boolean ranOver) {
            flags.tellSignAndZero(result);
            flags.tell(Flags.V, ranOver);
            return result;
        }
    }

    /** The registers, and the instructions that work on them. */
    private static final class Processor {
        private static final int INTERRUPT_VECTOR = 65528;
        private static final int SOFTWARE_VECTOR = 65530;
        private static final int RESET_VECTOR = 65534;

        private static final int DIGIT_JUMP = 14;
        private static final int DIGIT_STORE = 7;
        private static final int DIGIT_COMPARE_WORD = 12;
        private static final int DIGIT_CALL = 13;
        private static final int DIGIT_LOAD_WORD = 14;
        private static final int DIGIT_STORE_WORD = 15;
        private static final int BRANCHING_CALL = 0x8D;

        // A row for each upper digit, a bit for each lower one. A byte is looked up before its
        // operand is fetched, for an illegal one must touch nothing behind it (a chip may be there).
        private static final int[] LEGAL = {
            0xFFC2, 0x0AC3, 0xFFFD, 0xCAFF, 0xB7D9, 0xB7D9, 0xF7D9, 0xF7D9,
            0x7F77, 0xDFF7, 0xFFF7, 0xFFF7, 0x4F77, 0xCFF7, 0xCFF7, 0xCFF7
        };

        private final Bus bus;
        private final Arithmetic arithmetic;
        final Flags flags;
        int a;
        int b;
        int x;
        int s;
        int p;
        boolean waiting;
        boolean stopped;

        Processor(Bus bus) {
            this.bus = bus;
            this.flags = new Flags();
            this.arithmetic = new Arithmetic(this.flags);
        }

        void restart() {
            goThrough(RESET_VECTOR);
            waiting = false;
            stopped = false;
        }

        /** The processor's part of a step. */
        void act(boolean asked) {
            if (asked && !flags.has(Flags.I)) {
                interrupt();
                return;
            }
            if (waiting) {
                return;
            }
            int opcode = bus.read(p);
            if (!isLegal(opcode)) {
                stopped = true;
                return;
            }
            p = p + 1 & 0xFFFF;
            switch (opcode >> 4) {
                case 0:
                    doFlagsAndIndex(opcode);
                    break;
                case 1:
                    doBetweenAccumulators(opcode);
                    break;
                case 2:
                    branch(opcode & 15);
                    break;
                case 3:
                    doStack(opcode);
                    break;
                case 4:
                    a = arithmetic.changed(opcode & 15, a);
                    break;
                case 5:
                    b = arithmetic.changed(opcode & 15, b);
                    break;
                case 6:
                case 7:
                    changeInMemory(opcode & 15, operandAddress(opcode));
                    break;
                default:
                    doWithOperand(opcode, operandAddress(opcode));
                    break;
            }
        }

        private void interrupt() {
            // WAIT has pushed everything already.
            if (!waiting) {
                pushAll();
            }
            waiting = false;
            goThrough(INTERRUPT_VECTOR);
        }

        private void goThrough(int vector) {
            flags.tell(Flags.I, true);
            p = bus.readWord(vector);
        }

        private boolean isLegal(int opcode) {
            return (LEGAL[opcode >> 4 & 15] >> (opcode & 15) & 1) != 0;
        }

        private void doFlagsAndIndex(int opcode) {
            switch (opcode) {
                case 0x06:
                    flags.takeByte(a);
                    break;
                case 0x07:
                    a = flags.asByte();
                    break;
                case 0x08:
                    countIndex(1);
                    break;
                case 0x09:
                    countIndex(-1);
                    break;
                case 0x0A:
                case 0x0B:
                    flags.tell(Flags.V, opcode == 0x0B);
                    break;
                case 0x0C:
                case 0x0D:
                    flags.tell(Flags.C, opcode == 0x0D);
                    break;
                case 0x0E:
                case 0x0F:
                    flags.tell(Flags.I, opcode == 0x0F);
                    break;
                default:
                    break;
            }
        }

        private void countIndex(int by) {
            x = x + by & 0xFFFF;
            flags.tell(Flags.Z, x == 0);
        }

        private void doBetweenAccumulators(int opcode) {
            switch (opcode) {
                case 0x10:
                    a = arithmetic.difference(a, b, 0);
                    break;
                case 0x11:
                    arithmetic.difference(a, b, 0);
                    break;
                case 0x16:
                    b = arithmetic.told(a);
                    break;
                case 0x17:
                    a = arithmetic.told(b);
                    break;
                case 0x19:
                    a = arithmetic.decimalAdjusted(a);
                    break;
                case 0x1B:
                    a = arithmetic.sum(a, b, 0);
                    break;
                default:
                    break;
            }
        }

        private void branch(int digit) {
            int distance = signed(bus.read(p));
            p = p + 1 & 0xFFFF;
            // An odd digit asks for the contrary of the even one before it.
            boolean contrary = (digit & 1) != 0;
            if (isEvenBranchTaken(digit >> 1) != contrary) {
                p = p + distance & 0xFFFF;
            }
        }

        private int signed(int v) {
            return v < 128 ? v : v - 256;
        }

        private boolean isEvenBranchTaken(int pair) {
            boolean signsAlike = flags.has(Flags.N) == flags.has(Flags.V);
            switch (pair) {
                case 1:
                    return !flags.has(Flags.C | Flags.Z);
                case 2:
                    return !flags.has(Flags.C);
                case 3:
                    return !flags.has(Flags.Z);
                case 4:
                    return !flags.has(Flags.V);
                case 5:
                    return !flags.has(Flags.N);
                case 6:
                    return signsAlike;
                case 7:
                    return !flags.has(Flags.Z) && signsAlike;
                default:
                    return true;
            }
        }

        private void doStack(int opcode) {
            switch (opcode) {
                case 0x30:
                    x = s + 1 & 0xFFFF;
                    break;
                case 0x31:
                    s = s + 1 & 0xFFFF;
                    break;
                case 0x32:
                    a = pull();
                    break;
                case 0x33:
                    b = pull();
                    break;
                case 0x34:
                    s = s - 1 & 0xFFFF;
                    break;
                case 0x35:
                    s = x - 1 & 0xFFFF;
                    break;
                case 0x36:
                    push(a);
                    break;
                case 0x37:
                    push(b);
                    break;
                case 0x39:
                    p = pullWord();
                    break;
                case 0x3B:
                    pullAll();
                    break;
                case 0x3E:
                    pushAll();
                    waiting = true;
                    break;
                case 0x3F:
                    pushAll();
                    goThrough(SOFTWARE_VECTOR);
                    break;
                default:
                    break;
            }
        }

        private void push(int v) {
            bus.write(s, v);
            s = s - 1 & 0xFFFF;
        }

        private void pushWord(int v) {
            bus.write(s, v & 0xFF);
            bus.write(s - 1, v >> 8);
            s = s - 2 & 0xFFFF;
        }

        private void pushAll() {
            pushWord(p);
            pushWord(x);
            push(a);
            push(b);
            push(flags.asByte());
        }

        private int pull() {
            s = s + 1 & 0xFFFF;
            return bus.read(s);
        }

        private int pullWord() {
            int high = bus.read(s + 1);
            int low = bus.read(s + 2);
            s = s + 2 & 0xFFFF;
            return high << 8 | low;
        }

        private void pullAll() {
            flags.takeByte(pull());
            b = pull();
            a = pull();
            x = pullWord();
            p = pullWord();
        }

        /** The address of M; P goes on behind the instruction. */
        private int operandAddress(int opcode) {
            int behind = p;
            switch (opcode >> 4 & 3) {
                case 0:
                    p = p + immediateSize(opcode & 15) & 0xFFFF;
                    return behind;
                case 1:
                    p = p + 1 & 0xFFFF;
                    return bus.read(behind);
                case 2:
                    p = p + 1 & 0xFFFF;
                    return x + bus.read(behind) & 0xFFFF;
                default:
                    p = p + 2 & 0xFFFF;
                    return bus.readWord(behind);
            }
        }

        private int immediateSize(int digit) {
            return digit == DIGIT_COMPARE_WORD || digit == DIGIT_LOAD_WORD ? 2 : 1;
        }

        private void changeInMemory(int digit, int address) {
            if (digit == DIGIT_JUMP) {
                p = address;
                return;
            }
            // To read a chip would change it, so what is only cleared is not read.
            int m = digit == Arithmetic.DIGIT_CLEAR ? 0 : bus.read(address);
            int result = arithmetic.changed(digit, m);
            if (digit != Arithmetic.DIGIT_TEST) {
                bus.write(address, result);
            }
        }

        private void doWithOperand(int opcode, int address) {
            boolean onFirst = opcode < 0xC0;
            int digit = opcode & 15;
            switch (digit) {
                case DIGIT_STORE:
                    bus.write(address, arithmetic.told(onFirst ? a : b));
                    break;
                case DIGIT_COMPARE_WORD:
                    arithmetic.compareWords(x, bus.readWord(address));
                    break;
                case DIGIT_CALL:
                    call(opcode, address);
                    break;
                case DIGIT_LOAD_WORD:
                    loadWord(onFirst, address);
                    break;
                case DIGIT_STORE_WORD:
                    bus.writeWord(address, arithmetic.toldWord(onFirst ? s : x));
                    break;
                default:
                    combine(digit, onFirst, bus.read(address));
                    break;
            }
        }

        private void call(int opcode, int address) {
            // The distance is read before the push, which may write over it.
            int target = opcode == BRANCHING_CALL ? p + signed(bus.read(address)) : address;
            pushWord(p);
            p = target & 0xFFFF;
        }

        private void loadWord(boolean onFirst, int address) {
            int v = arithmetic.toldWord(bus.readWord(address));
            if (onFirst) {
                s = v;
            } else {
                x = v;
            }
        }

        private void combine(int digit, boolean onFirst, int m) {
            if (onFirst) {
                a = arithmetic.combined(digit, a, m);
            } else {
                b = arithmetic.combined(digit, b, m);
            }
        }
    }

    /** The serial chip, with the line that bytes come on and the row of those it has sent. */
    private static final class SerialChip {
        private static final int LINE_SIZE = 64;
        private static final int MOST_SENT = 256;
        private static final int RESET_MODE = 3;

        private static final int STATUS_FULL = 1;
        private static final int STATUS_EMPTY = 2;
        private static final int STATUS_OVERRUN = 32;
        private static final int STATUS_ASKS = 128;

        private final int[] lineBytes;
        private final int[] sentBytes;
        private int lineFirst;
        int lineCount;
        int sentCount;
        private int control;
        private boolean held;
        private boolean full;
        private boolean overrun;
        private boolean sendWaits;
        private int waitingByte;
        private int byteIn;
        private int byteOut;
        int stepsIn;
        int stepsOut;
        int lastReceived;

        SerialChip() {
            lineBytes = new int[LINE_SIZE];
            sentBytes = new int[MOST_SENT];
            control = RESET_MODE;
            held = true;
        }

        private int stepsOfByte() {
            switch (control & 3) {
                case 0:
                    return 1;
                case 1:
                    return 16;
                default:
                    return 64;
            }
        }

        boolean takeOnLine(int v) {
            if (lineCount >= LINE_SIZE) {
                return false;
            }
            lineBytes[(lineFirst + lineCount) % LINE_SIZE] = v;
            lineCount++;
            return true;
        }

        int sentAt(int i) {
            return i >= 0 && i < sentCount ? sentBytes[i] : NONE;
        }

        void passTime() {
            if (!held) {
                passTimeIn();
                passTimeOut();
            }
        }

        private void passTimeIn() {
            if (stepsIn > 0) {
                stepsIn--;
                if (stepsIn == 0) {
                    takeIn();
                }
            } else if (lineCount > 0) {
                byteIn = lineBytes[lineFirst];
                lineFirst = (lineFirst + 1) % LINE_SIZE;
                lineCount--;
                stepsIn = stepsOfByte();
            }
        }

        private void takeIn() {
            if (full) {
                overrun = true;
            } else {
                full = true;
                lastReceived = byteIn;
            }
        }

        private void passTimeOut() {
            if (stepsOut > 0) {
                stepsOut--;
                if (stepsOut == 0 && sentCount < MOST_SENT) {
                    sentBytes[sentCount] = byteOut;
                    sentCount++;
                }
            } else if (sendWaits) {
                sendWaits = false;
                byteOut = waitingByte;
                stepsOut = stepsOfByte();
            }
        }

        boolean asks() {
            if (held) {
                return false;
            }
            boolean asksEmpty = (control & 0x60) == 0x20 && !sendWaits;
            boolean asksFull = (control & 0x80) != 0 && (full || overrun);
            return asksEmpty || asksFull;
        }

        int status() {
            return (full ? STATUS_FULL : 0)
                | (sendWaits ? 0 : STATUS_EMPTY)
                | (overrun ? STATUS_OVERRUN : 0)
                | (asks() ? STATUS_ASKS : 0);
        }

        int readData() {
            full = false;
            overrun = false;
            return lastReceived;
        }

        void writeControl(int v) {
            control = v;
            held = (v & 3) == RESET_MODE;
            if (held) {
                full = false;
                overrun = false;
                sendWaits = false;
                stepsIn = 0;
                stepsOut = 0;
            }
        }

        void writeData(int v) {
            if (!held) {
                waitingByte = v;
                sendWaits = true;
            }
        }
    }

    /** One side of the parallel chip. */
    private static final class Side {
        private static final int FIRST_ASKS = 0x01;
        private static final int FIRST_RISES = 0x02;
        private static final int OUTPUT_CHOSEN = 0x04;
        private static final int SECOND_ASKS = 0x08;
        private static final int SECOND_RISES = 0x10;
        private static final int SECOND_IS_OUTPUT = 0x20;
        private static final int SECOND_SEEN = 0x40;
        private static final int FIRST_SEEN = 0x80;
        private static final int WRITABLE = 0x3F;

        // Bits 5, 4 and 3 tell what line 2 does as an output.
        private static final int STROBE_BITS = 0x30;
        private static final int KIND_BITS = 0x38;
        private static final int KIND_UNTIL_FIRST_LINE = 0x20;
        private static final int KIND_UNTIL_STEP_END = 0x28;

        private final boolean readingStrobes;
        int output;
        int direction;
        int control;
        int input;
        int firstLine;
        int secondLine;

        Side(boolean readingStrobes) {
            this.readingStrobes = readingStrobes;
        }

        private boolean isKind(int kind) {
            return (control & KIND_BITS) == kind;
        }

        private boolean isStrobed() {
            return (control & STROBE_BITS) == SECOND_IS_OUTPUT;
        }

        boolean secondLineIsOutput() {
            return (control & SECOND_IS_OUTPUT) != 0;
        }

        int readData() {
            if ((control & OUTPUT_CHOSEN) == 0) {
                return direction;
            }
            control &= WRITABLE;
            if (readingStrobes && isStrobed()) {
                secondLine = 0;
            }
            return output & direction | input & ~direction;
        }

        void writeData(int v) {
            if ((control & OUTPUT_CHOSEN) == 0) {
                direction = v;
                return;
            }
            output = v;
            if (!readingStrobes && isStrobed()) {
                secondLine = 0;
            }
        }

        void writeControl(int v) {
            control = control & ~WRITABLE | v & WRITABLE;
            if (isStrobed()) {
                secondLine = 1;
            } else if (secondLineIsOutput()) {
                secondLine = v >> 3 & 1;
            }
        }

        void setFirstLine(int level) {
            boolean seen = isSeen(firstLine, level, FIRST_RISES);
            firstLine = level;
            if (seen) {
                control |= FIRST_SEEN;
                if (isKind(KIND_UNTIL_FIRST_LINE)) {
                    secondLine = 1;
                }
            }
        }

        void setSecondLine(int level) {
            boolean seen = isSeen(secondLine, level, SECOND_RISES);
            secondLine = level;
            if (seen) {
                control |= SECOND_SEEN;
            }
        }

        private boolean isSeen(int before, int level, int risesBit) {
            int seenLevel = (control & risesBit) != 0 ? 1 : 0;
            return before != level && level == seenLevel;
        }

        boolean asks() {
            int first = FIRST_SEEN | FIRST_ASKS;
            int second = SECOND_SEEN | SECOND_ASKS;
            return (control & first) == first
                || (control & (second | SECOND_IS_OUTPUT)) == second;
        }

        void endStep() {
            if (isKind(KIND_UNTIL_STEP_END)) {
                secondLine = 1;
            }
        }
    }
}
