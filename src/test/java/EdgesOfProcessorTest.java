/** THE PROCESSOR and its INSTRUCTIONS where they wrap, end or stop: each test is named after its sentence. */
public final class EdgesOfProcessorTest {
    private static final int CODE = 0xFD00;
    private static final int I = Bench.I;

    /** All bytes that are no instruction. */
    private static final int[] ILLEGAL = {
        0x00, 0x02, 0x03, 0x04, 0x05, 0x12, 0x13, 0x14, 0x15, 0x18, 0x1A, 0x1C, 0x1D, 0x1E, 0x1F, 0x21,
        0x38, 0x3A, 0x3C, 0x3D, 0x41, 0x42, 0x45, 0x4B, 0x4E, 0x51, 0x52, 0x55, 0x5B, 0x5E,
        0x61, 0x62, 0x65, 0x6B, 0x71, 0x72, 0x75, 0x7B, 0x83, 0x87, 0x8F, 0x93, 0x9D, 0xA3, 0xB3,
        0xC3, 0xC7, 0xCC, 0xCD, 0xCF, 0xD3, 0xDC, 0xDD, 0xE3, 0xEC, 0xED, 0xF3, 0xFC, 0xFD
    };

    public static void main(String[] args) {
        accumulatorsOf8Bits();
        indexOf16Bits();
        programCounterOf16Bits();
        twoHighestBitsAre1WhereItIsWritten();
        flagsBecomeTheLowest6BitsOfA();
        resetAllElseStays();
        immediateTheByteBehind();
        directTheAddressThatTheByteBehindIs();
        indexedAtXPlusThatByte();
        xPlus1AndMinus1ZAlone();
        branchWithItsSign();
        xBecomesSPlus1();
        sPlus1AndMinus1();
        sBecomesXMinus1();
        pulledSPlus1ThenWhatIsAtS();
        pushedToSThenSMinus1();
        programCounterPulled();
        allPulledInThisOrder();
        allPushedThenIIsSet();
        lowerByteFirstPushedHigherByteFirstPulled();
        clearedWithoutReading();
        jumpToTheAddressOfM();
        branchingCallPushesTheAddressBehind();
        callPushesTheAddressBehind();
        allOthersAreIllegal();
        Due.end();
    }

    private static Bench ready(int flags, int a, int b, int x, int... code) {
        return new Bench().code(CODE, code).start(flags, a, b, x, CODE);
    }

    private static Bench step(int flags, int a, int b, int x, int... code) {
        Bench bench = ready(flags, a, b, x, code);
        bench.kit.run(1);
        return bench;
    }

    /** A machine about to do what lies across the end of memory, from an address up to 65535 and on at 0. */
    private static Bench atTheEnd(int from, int... code) {
        Bench bench = new Bench().start(I, 0x11, 0x22, 0x3344, from);
        for (int i = 0; i < code.length; i++) {
            bench.code(from + i & 0xFFFF, code[i]);
        }
        return bench;
    }

    private static void accumulatorsOf8Bits() {
        Sentence.is("A, B (8 bits)");
        // INC, DEC, ASL, NEG
        int[][] rows = {{0x4C, 255, 0}, {0x4A, 0, 255}, {0x48, 0x81, 2}, {0x40, 1, 255}, {0x40, 0, 0}};
        for (int[] row : rows) {
            step(I, row[1], 0x33, 0, row[0]).due("A by " + row[0], Bench.A, row[2]);
            step(I, 0x33, row[1], 0, row[0] + 0x10).due("B by " + row[0], Bench.B, row[2]);
        }
        step(I, 255, 255, 0, 0x1B).due("A + B", Bench.A, 254);
        step(I, 0, 1, 0, 0x10).due("A - B", Bench.A, 255);
    }

    private static void indexOf16Bits() {
        Sentence.is("X, S, P (16 bits)");
        step(I, 0, 0, 0xFFFF, 0x08).due("X + 1", Bench.X, 0);
        step(I, 0, 0, 0, 0x09).due("X - 1", Bench.X, 0xFFFF);
        step(I, 0, 0, 0x00FF, 0x08).due("not of 8 bits", Bench.X, 0x0100);
        step(I, 0, 0, 0x0100, 0x09).due("not of 8 bits", Bench.X, 0x00FF);
        Bench full = step(I, 0, 0, 0, 0xCE, 0xFF, 0xFF);
        full.due("without a sign", Bench.X, 65535);
    }

    private static void programCounterOf16Bits() {
        Sentence.is("An INSTRUCTION: a byte at P, and those behind it.");
        // At 65535, with the bytes behind it at 0 and 1: INX; LDAA #; LDX #; STAA direct
        int[][] codes = {{0x08}, {0x86, 0x99}, {0xCE, 0x12, 0x34}, {0x97, 0x80}};
        for (int[] code : codes) {
            Bench bench = atTheEnd(65535, code);
            Due.same("run", bench.kit.run(1), 1);
            bench.due("P behind 65535", Bench.P, code.length - 1);
        }
        for (int from = 65533; from <= 65535; from++) {
            // INC 0123h
            Bench bench = atTheEnd(from, 0x7C, 0x01, 0x23);
            bench.kit.run(1);
            bench.dueByte("done from " + from, 0x0123, 1);
            bench.due("P", Bench.P, from + 3 - 65536);
        }
        // Four instructions one behind the other, over the end.
        Bench on = atTheEnd(65534, 0x4C, 0x4C, 0x4C, 0x4C);
        on.kit.run(4);
        on.due("goes on at 0", Bench.A, 0x15);
        on.due("P", Bench.P, 2);
    }

    private static void twoHighestBitsAre1WhereItIsWritten() {
        Sentence.is("the flag byte, whose two highest bits are 1 where it is written");
        int[] all = {0, I, 63};
        for (int flags : all) {
            step(flags, 0, 0, 0, 0x07).due("A by 07", Bench.A, 192 + flags);
            step(flags, 0, 0, 0, 0x3F).dueByte("by 3F", Bench.STACK - 6, 192 + flags);
            step(flags, 0, 0, 0, 0x3E).dueByte("by 3E", Bench.STACK - 6, 192 + flags);
            step(flags, 0, 0, 0, 0x07).due("not where they are told", Bench.FLAGS, flags);
        }
        Bench asked = new Bench().write(8448, 0x20).start(0, 1, 2, 3, CODE);
        asked.kit.run(1);
        asked.dueByte("by an interrupt", Bench.STACK - 6, 192);
    }

    private static void flagsBecomeTheLowest6BitsOfA() {
        Sentence.is("06 the flags become A's lowest 6 bits");
        int[][] rows = {{0x00, 0}, {0x3F, 63}, {0x40, 0}, {0x80, 0}, {0xC0, 0}, {0xFF, 63}, {0xD5, 0x15}};
        for (int[] row : rows) {
            Bench bench = step(63 - row[1], row[0], 0, 0, 0x06);
            bench.due("A is " + row[0], Bench.FLAGS, row[1]);
            bench.due("A stays", Bench.A, row[0]);
        }
    }

    private static void resetAllElseStays() {
        Sentence.is("RESET: P is the word at 65534, I is set; all else stays.");
        int[] vectors = {0, 0x00FF, 0xFF00, 0xFFFF};
        int[][] flags = {{0, 16}, {16, 16}, {47, 63}, {63, 63}};
        for (int vector : vectors) {
            for (int[] row : flags) {
                Bench bench = new Bench().start(row[0], 0xFF, 0x80, 0xFFFF, CODE).vectors(vector);
                bench.kit.reset();
                int[] want = {0xFF, 0x80, 0xFFFF, Bench.STACK, vector, row[1], 0, 0};
                for (int what = 0; what < want.length; what++) {
                    bench.due("after RESET", what, want[what]);
                }
            }
        }
    }

    private static void immediateTheByteBehind() {
        Sentence.is("M is what it works on: of IMMEDIATE ones the byte behind");
        int[] all = {0, 1, 127, 128, 255};
        for (int m : all) {
            step(I, 0x55, 0, 0, 0x86, m).due("A", Bench.A, m);
            step(I, 0, 0x55, 0, 0xC6, m).due("B", Bench.B, m);
        }
        atTheEndLoads(65534, 0x99, 0);
        atTheEndLoads(65535, 0x99, 1);
    }

    private static void atTheEndLoads(int from, int m, int p) {
        Bench bench = atTheEnd(from, 0x86, m);
        bench.kit.run(1);
        bench.due("A from " + from, Bench.A, m);
        bench.due("P from " + from, Bench.P, p);
    }

    private static void directTheAddressThatTheByteBehindIs() {
        Sentence.is("of DIRECT ones what is at the address that the byte behind is");
        int[] ends = {0, 1, 127, 128, 255};
        for (int address : ends) {
            Bench bench = ready(I, 0x3C, 0, 0x0100, 0xD6, address, 0x97, address).code(address, 0x77);
            bench.kit.run(2);
            bench.due("read at " + address, Bench.B, 0x77);
            bench.dueByte("written", address, 0x3C);
        }
    }

    private static void indexedAtXPlusThatByte() {
        Sentence.is("INDEXED at X + that byte");
        int[][] rows = {{0, 0, 0}, {0, 255, 255}, {1, 255, 256}, {0x0300, 0xFF, 1023}, {0x0100, 0x80, 0x0180},
            {0xFFFF, 1, 0}, {0xFF80, 0x80, 0}, {0xFF01, 255, 0}};
        for (int[] row : rows) {
            Bench bench = ready(I, 0x3C, 0, row[0], 0xE6, row[1], 0xA7, row[1]).code(row[2], 0x77);
            bench.kit.run(2);
            bench.due("read at " + row[2], Bench.B, 0x77);
            bench.dueByte("written", row[2], 0x3C);
            bench.due("X stays", Bench.X, row[0]);
        }
    }

    private static void xPlus1AndMinus1ZAlone() {
        Sentence.is("08 X + 1, 09 X - 1 (Z alone is told by it)");
        int[][] rows = {{0x08, 0xFFFF, 0, 4}, {0x08, 0x7FFF, 0x8000, 0}, {0x08, 0x00FF, 0x0100, 0}, {0x08, 0, 1, 0},
            {0x09, 0, 0xFFFF, 0}, {0x09, 1, 0, 4}, {0x09, 0x8000, 0x7FFF, 0}, {0x09, 0x0101, 0x0100, 0}};
        for (int[] row : rows) {
            Bench bare = step(0, 0, 0, row[1], row[0]);
            bare.due("X", Bench.X, row[2]);
            bare.due("flags", Bench.FLAGS, row[3]);
            step(63, 0, 0, row[1], row[0]).due("flags", Bench.FLAGS, 59 + row[3]);
        }
    }

    private static void branchWithItsSign() {
        Sentence.is("P goes on at the address behind plus the byte behind with its sign");
        int[][] rows = {{0x0100, 0x00, 0x0102}, {0x0100, 0x7F, 0x0181}, {0x0100, 0x80, 0x0082}, {0x0100, 0xFF, 0x0101},
            {0x0100, 0xFE, 0x0100}, {0, 0xFD, 0xFFFF}, {0, 0x80, 0xFF82}, {0, 0xFE, 0}};
        for (int[] row : rows) {
            Bench bench = new Bench().code(row[0], 0x20, row[1]).start(I, 0, 0, 0, row[0]);
            bench.kit.run(1);
            bench.due("from " + row[0] + " by " + row[1], Bench.P, row[2]);
        }
        int[][] ends = {{65533, 0x00, 65535}, {65533, 0x01, 0}, {65534, 0x7F, 127}, {65534, 0xFF, 65535},
            {65535, 0x80, 65409}, {65535, 0x00, 1}};
        for (int[] row : ends) {
            Bench bench = atTheEnd(row[0], 0x20, row[1]);
            bench.kit.run(1);
            bench.due("from " + row[0] + " by " + row[1], Bench.P, row[2]);
            Bench not = atTheEnd(row[0], 0x25, row[1]);
            not.kit.run(1);
            not.due("not taken", Bench.P, row[0] + 2 & 0xFFFF);
        }
    }

    private static void xBecomesSPlus1() {
        Sentence.is("30 X becomes S + 1");
        int[][] rows = {{0xFFFF, 0}, {0, 1}, {0x00FF, 0x0100}, {0xFFFE, 0xFFFF}};
        for (int[] row : rows) {
            // LDX #1234h first, for withStack() leaves X so.
            Bench bench = Bench.withStack(row[0], I, 0, 0, 0xCE, 0x12, 0x34, 0x30);
            bench.kit.run(2);
            bench.due("X", Bench.X, row[1]);
            bench.due("S stays", Bench.S, row[0]);
        }
    }

    private static void sPlus1AndMinus1() {
        Sentence.is("31 S + 1");
        int[][] up = {{0xFFFF, 0}, {0, 1}, {0x00FF, 0x0100}, {0x7FFF, 0x8000}};
        for (int[] row : up) {
            Bench bench = Bench.withStack(row[0], 63, 0, 0, 0x31);
            bench.kit.run(1);
            bench.due("S", Bench.S, row[1]);
            bench.due("flags stay", Bench.FLAGS, 63);
        }
        Sentence.is("34 S - 1");
        int[][] down = {{0, 0xFFFF}, {1, 0}, {0x0100, 0x00FF}, {0x8000, 0x7FFF}};
        for (int[] row : down) {
            Bench bench = Bench.withStack(row[0], I, 0, 0, 0x34);
            bench.kit.run(1);
            bench.due("S", Bench.S, row[1]);
            bench.due("flags stay", Bench.FLAGS, I);
        }
    }

    private static void sBecomesXMinus1() {
        Sentence.is("35 S becomes X - 1");
        int[][] rows = {{0, 0xFFFF}, {1, 0}, {0xFFFF, 0xFFFE}, {0x0100, 0x00FF}};
        for (int[] row : rows) {
            Bench bench = step(I, 0, 0, row[0], 0x35);
            bench.due("S", Bench.S, row[1]);
            bench.due("X stays", Bench.X, row[0]);
        }
    }

    private static void pulledSPlus1ThenWhatIsAtS() {
        Sentence.is("32, 33 A, B pulled (S + 1, then what is at S)");
        int[][] rows = {{0xFFFF, 0, 0x71}, {0xFFFE, 65535, 0x72}, {1022, 1023, 0x73}, {64511, 64512, 0x74}};
        for (int[] row : rows) {
            Bench a = Bench.withStack(row[0], I, 0x11, 0x22, 0x32).code(row[1], row[2]);
            a.kit.run(1);
            a.due("A", Bench.A, row[2]);
            a.due("S", Bench.S, row[1]);
            Bench b = Bench.withStack(row[0], I, 0x11, 0x22, 0x33).code(row[1], row[2]);
            b.kit.run(1);
            b.due("B", Bench.B, row[2]);
            b.due("S", Bench.S, row[1]);
        }
        Bench none = Bench.withStack(1023, I, 0x11, 0x22, 0x32);
        none.kit.run(1);
        none.due("elsewhere", Bench.A, 0);
        none.due("S", Bench.S, 1024);
    }

    private static void pushedToSThenSMinus1() {
        Sentence.is("36, 37 A, B pushed (to S, then S - 1)");
        int[][] rows = {{0, 0xFFFF}, {1, 0}, {1023, 1022}, {0x0100, 0x00FF}};
        for (int[] row : rows) {
            Bench a = Bench.withStack(row[0], I, 0x91, 0x82, 0x36);
            a.kit.run(1);
            a.dueByte("A", row[0], 0x91);
            a.due("S", Bench.S, row[1]);
            Bench b = Bench.withStack(row[0], I, 0x91, 0x82, 0x37);
            b.kit.run(1);
            b.dueByte("B", row[0], 0x82);
            b.due("S", Bench.S, row[1]);
        }
        Bench lost = Bench.withStack(1024, I, 0x91, 0x82, 0x36, 0x37);
        lost.kit.run(2);
        lost.dueByte("the one at 1024 is lost", 1023, 0x82);
        lost.due("S", Bench.S, 1022);
    }

    private static void programCounterPulled() {
        Sentence.is("39 P pulled");
        int[][] rows = {{0xFFFF, 0, 1}, {0xFFFE, 65535, 0}, {0xFFFD, 65534, 65535}, {0x00FE, 0x00FF, 0x0100}};
        for (int[] row : rows) {
            Bench bench = Bench.withStack(row[0], I, 0, 0, 0x39).code(row[1], 0x9A).code(row[2], 0xBC);
            bench.kit.run(1);
            bench.due("P", Bench.P, 0x9ABC);
            bench.due("S", Bench.S, row[2]);
        }
        Bench half = Bench.withStack(1022, I, 0, 0, 0x39).code(1023, 0x9A);
        half.kit.run(1);
        half.due("half of it elsewhere", Bench.P, 0x9A00);
    }

    private static void allPulledInThisOrder() {
        Sentence.is("3B flags, B, A, X, P pulled in this order");
        for (int s = 65527; s <= 65535; s++) {
            Bench bench = Bench.withStack(s, I, 0, 0, 0x3B);
            int[] frame = {0xE5, 0x22, 0x11, 0x33, 0x44, 0x55, 0x66};
            for (int i = 0; i < frame.length; i++) {
                bench.code(s + 1 + i & 0xFFFF, frame[i]);
            }
            bench.kit.run(1);
            int[] want = {0x11, 0x22, 0x3344, s + 7 & 0xFFFF, 0x5566, 0x25, 0, 0};
            for (int what = 0; what < want.length; what++) {
                bench.due("from " + s, what, want[what]);
            }
        }
    }

    private static void allPushedThenIIsSet() {
        Sentence.is("3F pushed P behind it, X, A, B, flags, then I is set, P the word at 65530.");
        int behind = Bench.STACK_CODE + 1;
        for (int s = 0; s <= 8; s++) {
            Bench bench = Bench.withStack(s, 0x0F, 0x11, 0x22, 0x3F);
            bench.kit.run(1);
            int[] frame = {behind & 0xFF, behind >> 8, s + 1, 0, 0x11, 0x22, 0xCF};
            for (int i = 0; i < frame.length && i <= s; i++) {
                bench.dueByte("from " + s, s - i, frame[i]);
            }
            bench.due("S", Bench.S, s - 7 & 0xFFFF);
            bench.due("P", Bench.P, Bench.SWI_CODE);
            bench.due("I is set", Bench.FLAGS, 0x1F);
            bench.dueByte("nothing is pushed over the vectors", 65530, Bench.SWI_CODE >> 8);
        }
        Bench end = atTheEnd(65535, 0x3F);
        end.kit.run(1);
        end.dueByte("P behind 65535", Bench.STACK, 0);
        end.dueByte("P behind 65535", Bench.STACK - 1, 0);
    }

    private static void lowerByteFirstPushedHigherByteFirstPulled() {
        Sentence.is("(A word is pushed with its lower byte first, pulled with its higher one first.)");
        // BSR to the RTS behind it, with the stack over the end of memory
        Bench bench = Bench.withStack(1024, I, 0, 0, 0x8D, 0x00, 0x39);
        int behind = Bench.STACK_CODE + 2;
        bench.kit.run(1);
        bench.dueByte("the lower byte is lost, the higher one kept", 1023, behind >> 8);
        bench.kit.run(1);
        bench.due("pulled", Bench.P, behind & 0xFF00);
        Bench wrapped = Bench.withStack(0, I, 0, 0, 0x8D, 0x00, 0x39);
        wrapped.code(65535, 0x12);
        wrapped.kit.run(1);
        wrapped.dueByte("the lower byte at 0", 0, behind & 0xFF);
        wrapped.dueByte("the higher one is lost", 65535, 0x12);
        wrapped.due("S", Bench.S, 65534);
        wrapped.kit.run(1);
        wrapped.due("pulled", Bench.P, 0x1200 | behind & 0xFF);
        wrapped.due("S", Bench.S, 0);
    }

    private static void clearedWithoutReading() {
        Sentence.is("F CLR: 0, NZ, C cleared (M is not read)");
        Bench bench = new Bench().write(8448, 0);
        bench.kit.receive(9);
        bench.kit.run(2);
        bench.code(CODE, 0x7F, 0x21, 0x01, 0x7D, 0x21, 0x01).start(63, 0, 0, 0, CODE);
        bench.kit.run(1);
        bench.dueSerial("still FULL, and a 0 waits", 0, 1);
        bench.due("flags", Bench.FLAGS, 48 | Bench.Z);
        bench.kit.run(1);
        bench.dueSerial("read by TST", 0, 2);
    }

    private static void jumpToTheAddressOfM() {
        Sentence.is("E JMP (60, 70 alone): P is the address of M.");
        int[][] rows = {{0, 0, 0}, {0xFFFF, 0, 0xFFFF}, {0xFFFF, 1, 0}, {0xFFFF, 255, 254}, {0, 255, 255}};
        for (int[] row : rows) {
            Bench bench = step(63, 0, 0, row[0], 0x6E, row[1]);
            bench.due("P", Bench.P, row[2]);
            bench.due("flags stay", Bench.FLAGS, 63);
        }
        step(I, 0, 0, 0, 0x7E, 0xFF, 0xFF).due("P", Bench.P, 0xFFFF);
        step(I, 0, 0, 0, 0x7E, 0, 0).due("P", Bench.P, 0);
        // The output of side 0 would lose its bit 7 if it were read.
        Bench chip = new Bench().write(8193, 6);
        chip.kit.line(0, 1, true);
        chip.code(CODE, 0x7E, 0x20, 0x00).start(I, 0, 0, 0, CODE);
        chip.kit.run(1);
        chip.duePort("M is not read", 0, 2, 0x86);
        step(I, 0, 0, 0, 0x4E).due("not on A", Bench.STOPPED, 1);
        step(I, 0, 0, 0, 0x5E).due("not on B", Bench.STOPPED, 1);
    }

    private static void branchingCallPushesTheAddressBehind() {
        Sentence.is("8D: the address behind pushed, then as 20.");
        int[][] rows = {{65533, 0x10, 65535, 15}, {65534, 0x10, 0, 16}, {65535, 0x10, 1, 17}, {65535, 0xFD, 1, 65534},
            {65534, 0x80, 0, 65408}};
        for (int[] row : rows) {
            Bench bench = atTheEnd(row[0], 0x8D, row[1]);
            bench.kit.run(1);
            bench.due("P", Bench.P, row[3]);
            bench.dueByte("lower byte", Bench.STACK, row[2] & 0xFF);
            bench.dueByte("higher byte", Bench.STACK - 1, row[2] >> 8);
            bench.due("S", Bench.S, Bench.STACK - 2);
        }
        // With S at the distance itself: what it was is what counts.
        Bench over = new Bench().code(CODE, 0x35).code(0x0100, 0x8D, 0x20).code(CODE + 1, 0x7E, 0x01, 0x00);
        over.start(I, 0, 0, 0x0102, CODE);
        over.kit.run(3);
        over.due("P", Bench.P, 0x0122);
        over.dueByte("the lower byte over the distance", 0x0101, 0x02);
    }

    private static void callPushesTheAddressBehind() {
        Sentence.is("AD, BD: the address behind pushed, P is the address of M.");
        for (int from = 65533; from <= 65535; from++) {
            Bench extended = atTheEnd(from, 0xBD, 0xFF, 0xFE);
            extended.kit.run(1);
            extended.due("P", Bench.P, 0xFFFE);
            extended.dueByte("lower byte", Bench.STACK, from + 3 & 0xFF);
            extended.dueByte("higher byte", Bench.STACK - 1, 0);
        }
        int[][] rows = {{0xFFFF, 1, 0}, {0xFFFF, 255, 254}, {0, 255, 255}, {0xFF00, 255, 65535}};
        for (int[] row : rows) {
            Bench indexed = step(I, 0, 0, row[0], 0xAD, row[1]);
            indexed.due("P", Bench.P, row[2]);
            indexed.dueByte("lower byte", Bench.STACK, CODE + 2 & 0xFF);
            indexed.dueByte("higher byte", Bench.STACK - 1, CODE + 2 >> 8);
        }
        Bench below = Bench.withStack(0, I, 0, 0, 0xBD, 0x01, 0x23);
        below.kit.run(1);
        below.due("S below 0", Bench.S, 65534);
        below.dueByte("lower byte at 0", 0, Bench.STACK_CODE + 3 & 0xFF);
    }

    private static void allOthersAreIllegal() {
        Sentence.is("9D and all others are ILLEGAL: the machine STOPS, P stays at the byte.");
        Due.same("how many", ILLEGAL.length, 59);
        int[] places = {0, 0x0100, 1023, 64512, 65535};
        for (int opcode : ILLEGAL) {
            for (int place : places) {
                stopsAt(place, opcode);
            }
        }
        boolean[] illegal = new boolean[256];
        for (int opcode : ILLEGAL) {
            illegal[opcode] = true;
        }
        for (int opcode = 0; opcode < 256; opcode++) {
            Bench bench = step(I, 1, 2, 3, opcode, 0x40, 0x40);
            bench.due("stopped by " + opcode, Bench.STOPPED, illegal[opcode] ? 1 : 0);
        }
    }

    private static void stopsAt(int place, int opcode) {
        Bench bench = new Bench().start(0x2F, 0x11, 0x22, 0x3344, place).code(place, opcode);
        String what = "byte " + opcode + " at " + place;
        Due.same(what + ": run(9)", bench.kit.run(9), 1);
        int[] want = {0x11, 0x22, 0x3344, Bench.STACK, place, 0x2F, 0, 1};
        for (int i = 0; i < want.length; i++) {
            bench.due(what, i, want[i]);
        }
        bench.dueByte(what + ": nothing is pushed", Bench.STACK, 0xA7);
        Due.same(what + ": run(9) again", bench.kit.run(9), 0);
        bench.due(what + ": P stays", Bench.P, place);
    }
}
