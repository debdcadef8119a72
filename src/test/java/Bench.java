/** A machine on the bench: puts programs into it and brings it into a wanted state. */
final class Bench {
    static final int A = 0;
    static final int B = 1;
    static final int X = 2;
    static final int S = 3;
    static final int P = 4;
    static final int FLAGS = 5;
    static final int WAITS = 6;
    static final int STOPPED = 7;

    static final int C = 1;
    static final int V = 2;
    static final int Z = 4;
    static final int N = 8;
    static final int I = 16;
    static final int H = 32;

    static final int ROM = 64512;
    static final int IRQ_CODE = 0xFE00;
    static final int SWI_CODE = 0xFE80;

    /** Where start() leaves S: the last byte of the frame from which it pulls the state. */
    static final int STACK = 0x03F6;
    /** Where withStack() puts its instructions. */
    static final int STACK_CODE = 0xFD41;

    private static final int FRAME = 0x03F0;
    private static final int LOADER = 0xFF00;
    private static final int SCRATCH = 0xFF80;

    final KitMachine kit = new KitMachine();

    /** Puts bytes into memory, leaving those around them. */
    Bench code(int address, int... bytes) {
        for (int i = 0; i < bytes.length; i++) {
            byteAt(address + i, bytes[i]);
        }
        return this;
    }

    private void byteAt(int address, int v) {
        int start = Math.min(address, address < 1024 ? 1020 : 65532);
        int word = 0;
        for (int i = 0; i < 4; i++) {
            word = word << 8 | (start + i == address ? v & 0xFF : kit.peek(start + i));
        }
        if (!kit.put(start, word)) {
            throw new IllegalArgumentException("not memory: " + address);
        }
    }

    Bench vectors(int start) {
        kit.put(65528, IRQ_CODE << 16 | SWI_CODE);
        kit.put(65532, start);
        return this;
    }

    /** Puts a program at the start of the read-only part and resets the machine onto it. */
    static Bench running(int... bytes) {
        Bench bench = new Bench();
        for (int i = 0; i < bytes.length; i += 4) {
            int word = 0;
            for (int j = i; j < i + 4; j++) {
                word = word << 8 | (j < bytes.length ? bytes[j] & 0xFF : 0);
            }
            bench.kit.put(ROM + i, word);
        }
        bench.vectors(ROM);
        bench.kit.reset();
        return bench;
    }

    /** Brings all registers but S to wanted values: they are pulled from a frame by one instruction. */
    Bench start(int flags, int a, int b, int x, int p) {
        kit.put(FRAME, flags << 24 | b << 16 | a << 8 | x >> 8);
        kit.put(FRAME + 3, x << 16 | p);
        kit.put(LOADER, 0x8E << 24 | FRAME - 1 << 8 | 0x3B);
        vectors(LOADER);
        kit.reset();
        kit.run(2);
        // What is pushed next comes to lie here, and must not be there before.
        kit.put(FRAME, 0xA7A7A7A7);
        kit.put(FRAME + 3, 0xA7A7A7A7);
        return this;
    }

    /** A machine with S where it is wanted (X is S + 1), about to do the instructions. */
    static Bench withStack(int s, int flags, int a, int b, int... code) {
        Bench bench = new Bench().code(STACK_CODE - 1, 0x35).code(STACK_CODE, code);
        bench.start(flags, a, b, s + 1 & 0xFFFF, STACK_CODE - 1);
        bench.kit.run(1);
        return bench;
    }

    /** Has the processor write a byte (three steps, I set), then go round on the spot. */
    Bench write(int address, int v) {
        return access(0xB7, address, v);
    }

    /** Has the processor read a byte (three steps, I set), then go round on the spot. */
    int read(int address) {
        return access(0xB6, address, 0).kit.register(A);
    }

    private Bench access(int opcode, int address, int a) {
        kit.put(SCRATCH, opcode << 24 | address << 8 | 0x20);
        kit.put(SCRATCH + 4, 0xFE << 24);
        start(I, a, 0, 0, SCRATCH);
        kit.run(1);
        return this;
    }

    int get(int what) {
        return kit.register(what);
    }

    void due(String what, int register, int want) {
        Due.same(what + ": register(" + register + ")", kit.register(register), want);
    }

    void dueByte(String what, int address, int want) {
        Due.same(what + ": peek(" + address + ")", kit.peek(address), want);
    }

    void duePort(String what, int side, int part, int want) {
        Due.same(what + ": port(" + side + ", " + part + ")", kit.port(side, part), want);
    }

    void dueSerial(String what, int part, int want) {
        Due.same(what + ": serial(" + part + ")", kit.serial(part), want);
    }
}
