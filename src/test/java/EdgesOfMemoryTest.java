/** MEMORY, put and peek where they end, wrap or refuse: each test is named after its sentence. */
public final class EdgesOfMemoryTest {
    private static final int CODE = 0xFD00;
    /** An object is good for 512 calls, so not all of the part can be looked at on one. */
    private static final int PIECE = 128;
    private static final int I = Bench.I;
    private static final int NONE = KitMachine.NONE;

    public static void main(String[] args) {
        addressesHave16BitsWhatIsBeyondWraps();
        zeroTo1023IsFreeMemory();
        aReadOnlyPartWhichPutAloneChanges();
        addressesOfTheChips();
        elsewhereZeroIsReadAndWhatIsWrittenIsLost();
        wordsHaveTheHigherByteFirst();
        theWordAt65535GoesOnAt0();
        theOperandAt65535GoesOnAt0();
        putFourBytesTheHighestFirst();
        putFalseAndNothingHappens();
        peekAByteOfMemory();
        peekNoneIfTheAddressIsNeither();
        peekDoesNotTouchTheChips();
        Due.end();
    }

    private static Bench ready(int a, int x, int... code) {
        return new Bench().code(CODE, code).start(I, a, 0x55, x, CODE);
    }

    private static void addressesHave16BitsWhatIsBeyondWraps() {
        Sentence.is("Addresses have 16 bits (what is beyond wraps).");
        int[][] rows = {{0xFFFF, 0x01, 0}, {0xFF01, 0xFF, 0}, {0xFFFF, 0xFF, 0xFE}, {0xFFF0, 0x20, 0x10}};
        for (int[] row : rows) {
            // LDAB n,X; STAA n,X; JMP n,X
            Bench bench = ready(0x3C, row[0], 0xE6, row[1], 0xA7, row[1], 0x6E, row[1]);
            bench.code(row[2], 0x77);
            bench.kit.run(1);
            bench.due("read beyond 65535", Bench.B, 0x77);
            bench.kit.run(1);
            bench.dueByte("written beyond 65535", row[2], 0x3C);
            bench.kit.run(1);
            bench.due("jump beyond 65535", Bench.P, row[2]);
        }
        // LDAB n,X; STAA n,X at the last address there is
        Bench last = ready(0x3C, 0xFF00, 0xE6, 0xFF, 0xA7, 0xFF).code(65535, 0x77).code(0, 0x66);
        last.kit.run(2);
        last.due("65535 does not wrap", Bench.B, 0x77);
        last.dueByte("nor when written", 0, 0x66);
    }

    private static void zeroTo1023IsFreeMemory() {
        Sentence.is("0 .. 1023 is free memory");
        int[] ends = {0, 1, 1022, 1023};
        for (int address : ends) {
            Bench bench = new Bench().write(address, 0x6B);
            bench.dueByte("written by a program", address, 0x6B);
            Due.same("read by a program at " + address, bench.read(address), 0x6B);
        }
        Bench beyond = new Bench().code(1023, 0x21).code(0, 0x22).write(1024, 0x6B);
        beyond.dueByte("1024 is not 1023", 1023, 0x21);
        beyond.dueByte("1024 is not 0", 0, 0x22);
        Due.same("1024 is not kept", beyond.read(1024), 0);
        Due.same("every byte is kept, up to", sweep(0, 1024, 0xA7), 1024);
    }

    /** Writes A7h at each address and looks whether it reads as wanted: where it does not, else the end. */
    private static int sweep(int from, int end, int want) {
        // STAA 0,X; LDAB 0,X; CMPB #; BNE out; INX; CPX #; BNE back; out: illegal
        Bench bench = ready(0xA7, from, 0xA7, 0, 0xE6, 0, 0xC1, want, 0x26, 0x06, 0x08, 0x8C, end >> 8, end,
            0x26, 0xF2, 0x00);
        int done = 3000;
        for (int i = 0; i < 200 && done == 3000; i++) {
            done = bench.kit.run(3000);
        }
        bench.due("swept", Bench.STOPPED, 1);
        return bench.get(Bench.X);
    }

    private static void aReadOnlyPartWhichPutAloneChanges() {
        Sentence.is("64512 .. 65535 a READ-ONLY part (which put() alone changes)");
        int[] ends = {64512, 64513, 65526, 65527};
        for (int address : ends) {
            int high = address >> 8;
            int low = address & 0xFF;
            // STAA; STX; INC; CLR; LDAB of one address
            Bench bench = ready(0x3C, 0x4D5F, 0xB7, high, low, 0xFF, high, low, 0x7C, high, low, 0x7F, high, low,
                0xF6, high, low);
            bench.kit.put(address, 0x91929394);
            bench.kit.run(5);
            bench.dueByte("not written by a program", address, 0x91);
            bench.dueByte("nor the byte behind", address + 1, 0x92);
            bench.due("read by a program", Bench.B, 0x91);
        }
        Bench pushed = Bench.withStack(65535, I, 0x3C, 0, 0x36, 0xF6, 0xFF, 0xFF).code(65535, 0x81);
        pushed.kit.run(2);
        pushed.dueByte("not pushed to 65535", 65535, 0x81);
        pushed.due("65535 is read", Bench.B, 0x81);
        Bench below = ready(0x3C, 0, 0xB7, 0xFB, 0xFF, 0xF6, 0xFB, 0xFF);
        below.kit.run(2);
        below.due("64511 is not of it", Bench.B, 0);
        for (int start = 64512; start < 65536; start += PIECE) {
            noneIsWrittenFrom(start);
        }
    }

    private static void noneIsWrittenFrom(int start) {
        // STAA 0,X; INX; BNE back; illegal: from 64512 up to 65535
        Bench bench = ready(0xA7, 64512, 0xA7, 0, 0x08, 0x26, 0xFB, 0x00);
        int sum = sumFrom(bench, start);
        bench.kit.run(3000);
        bench.kit.run(3000);
        bench.due("all were written to", Bench.X, 0);
        Due.same("nothing changed from " + start, sumFrom(bench, start), sum);
    }

    private static int sumFrom(Bench bench, int start) {
        int sum = 0;
        for (int i = 0; i < PIECE; i++) {
            sum = 31 * sum + bench.kit.peek(start + i);
        }
        return sum;
    }

    private static void addressesOfTheChips() {
        Sentence.is("8192 .. 8195 is the parallel chip, 8448 .. 8449 the serial chip.");
        int[] beside = {8190, 8191, 8196, 8197, 8446, 8447, 8450, 8451};
        for (int address : beside) {
            Bench bench = new Bench().write(8448, 0x80).write(8193, 1).write(8195, 2).write(address, 0x3F);
            String what = "written at " + address;
            Due.same("read at " + address, bench.read(address), 0);
            bench.duePort(what, 0, 1, 0);
            bench.duePort(what, 0, 2, 1);
            bench.duePort(what, 1, 1, 0);
            bench.duePort(what, 1, 2, 2);
            bench.dueSerial(what, 0, 2);
        }
        Bench bench = new Bench().write(8192, 0x11).write(8194, 0x33).write(8193, 0x22).write(8195, 0x30);
        bench.duePort("8192", 0, 1, 0x11);
        bench.duePort("8193", 0, 2, 0x22);
        bench.duePort("8194", 1, 1, 0x33);
        bench.duePort("8195", 1, 2, 0x30);
        bench.write(8448, 0).write(8449, 0x77);
        bench.dueSerial("8449", 0, 0);
    }

    private static void elsewhereZeroIsReadAndWhatIsWrittenIsLost() {
        Sentence.is("Elsewhere 0 is read, and what is written is lost.");
        Due.same("behind free memory, up to", sweep(1024, 8192, 0), 8192);
        Due.same("between the chips, up to", sweep(8196, 8448, 0), 8448);
        Due.same("behind the chips, up to", sweep(8450, 64512, 0), 64512);
        int[] ends = {1024, 8191, 8196, 8447, 8450, 64511};
        for (int address : ends) {
            Bench bench = new Bench().write(address, 0xFF);
            Due.same("read at " + address, bench.read(address), 0);
            // A program there meets a 0, which is illegal.
            bench.start(I, 1, 2, 3, address);
            Due.same("run at " + address, bench.kit.run(2), 1);
            bench.due("stopped at " + address, Bench.STOPPED, 1);
        }
    }

    private static void wordsHaveTheHigherByteFirst() {
        Sentence.is("WORDS of two bytes have the higher one first");
        Bench free = ready(0, 0x4D5F, 0xDF, 0xFF, 0xDE, 0xFF);
        free.kit.run(1);
        free.dueByte("higher byte at 255", 255, 0x4D);
        free.dueByte("lower byte at 256, not at 0", 256, 0x5F);
        free.dueByte("0 stays", 0, 0);
        free.kit.run(1);
        free.due("read at 255", Bench.X, 0x4D5F);
        wordIs("at the end of free memory", new Bench().code(1023, 0x77), 1023, 0x7700);
        wordIs("before the read-only part", new Bench().code(64512, 0x78), 64511, 0x0078);
        wordIs("before side 0", new Bench().write(8192, 0x79), 8191, 0x0079);
        wordIs("behind side 1", new Bench().write(8195, 0x3A), 8195, 0x3A00);
        wordIs("before the serial chip", new Bench().write(8448, 0x20), 8447, 0x0082);
        Bench received = new Bench().write(8448, 0);
        received.kit.receive(0x7C);
        received.kit.run(2);
        wordIs("behind the serial chip", received, 8449, 0x7C00);
        Bench end = ready(0, 0x4D5F, 0xFF, 0x03, 0xFF);
        end.kit.run(1);
        end.dueByte("the half that is kept", 1023, 0x4D);
        end.dueByte("the other half is lost", 0, 0);
    }

    private static void wordIs(String what, Bench bench, int address, int want) {
        bench.code(CODE, 0xFE, address >> 8, address).start(I, 0, 0, 0x1111, CODE);
        bench.kit.run(1);
        bench.due(what, Bench.X, want);
    }

    private static void theWordAt65535GoesOnAt0() {
        Sentence.is("the word at 65535 goes on at 0");
        Bench read = ready(0, 0x8123, 0xBC, 0xFF, 0xFF, 0xBE, 0xFF, 0xFF, 0xFE, 0xFF, 0xFF);
        read.code(65535, 0x81).code(0, 0x23);
        read.kit.run(1);
        read.due("compared", Bench.FLAGS, I | Bench.Z);
        read.kit.run(1);
        read.due("S", Bench.S, 0x8123);
        read.kit.run(1);
        read.due("X", Bench.X, 0x8123);
        Bench indexed = ready(0, 0xFF01, 0xEE, 0xFE).code(65535, 0x81).code(0, 0x23);
        indexed.kit.run(1);
        indexed.due("X, indexed", Bench.X, 0x8123);
        Bench write = ready(0, 0x4D5F, 0xFF, 0xFF, 0xFF).code(65535, 0x81);
        write.kit.run(1);
        write.dueByte("read-only", 65535, 0x81);
        write.dueByte("X written at 0", 0, 0x5F);
        write.dueByte("and not behind it", 1, 0);
        Bench stack = ready(0, 0xFF01, 0xAF, 0xFE).code(65535, 0x81);
        stack.kit.run(1);
        stack.dueByte("S written at 0", 0, Bench.STACK & 0xFF);
    }

    private static void theOperandAt65535GoesOnAt0() {
        Sentence.is("EXTENDED at the word behind");
        Bench load = new Bench().start(I, 0, 0, 0, 65534).code(0x0123, 0x99);
        load.code(65534, 0xB6, 0x01).code(0, 0x23);
        load.kit.run(1);
        load.due("what is at the word", Bench.A, 0x99);
        load.due("P behind it", Bench.P, 1);
        Bench jump = new Bench().start(I, 0, 0, 0, 65534).code(65534, 0x7E, 0x01).code(0, 0x23);
        jump.kit.run(1);
        jump.due("the word itself", Bench.P, 0x0123);
        Bench whole = new Bench().start(I, 0, 0, 0, 65535).code(65535, 0xCE).code(0, 0x45, 0x67);
        whole.kit.run(1);
        whole.due("a word behind 65535", Bench.X, 0x4567);
        whole.due("P behind it", Bench.P, 2);
    }

    private static void putFourBytesTheHighestFirst() {
        Sentence.is("Bytes of memory (free or read-only), from an address on (which does not wrap), four, the highest of v"
            + " first: true");
        int[] ends = {0, 1, 1019, 1020, 64512, 64513, 65531, 65532};
        for (int address : ends) {
            KitMachine kit = new KitMachine();
            Due.yes("put(" + address + ")", kit.put(address, 0xFE807F01));
            int[] want = {0xFE, 0x80, 0x7F, 0x01};
            for (int i = 0; i < 4; i++) {
                Due.same("peek(" + (address + i) + ")", kit.peek(address + i), want[i]);
            }
            Due.yes("none before", kit.peek(address - 1) <= 0);
            Due.yes("none behind", kit.peek(address + 4) <= 0);
            Due.yes("put of -1", kit.put(address, -1));
            Due.same("peek", kit.peek(address), 255);
            Due.yes("put of 0", kit.put(address, 0));
            Due.same("peek", kit.peek(address), 0);
        }
    }

    private static void putFalseAndNothingHappens() {
        Sentence.is("false, and nothing happens, if one of them is at an address that is neither");
        int[] neither = {-1, -2, -3, -4, 1021, 1022, 1023, 1024, 64508, 64509, 64510, 64511, 65533, 65534, 65535,
            65536, 65537, 65536 + 64512, 64512 - 65536, Integer.MAX_VALUE, Integer.MAX_VALUE - 3, Integer.MIN_VALUE,
            Integer.MIN_VALUE + 1020};
        int[] ends = {0, 1020, 64512, 65532};
        for (int address : neither) {
            KitMachine kit = new KitMachine();
            for (int end : ends) {
                kit.put(end, 0x11121314);
            }
            Due.no("put(" + address + ")", kit.put(address, -1));
            for (int end : ends) {
                for (int i = 0; i < 4; i++) {
                    Due.same("peek(" + (end + i) + ") after put(" + address + ")", kit.peek(end + i), 0x11 + i);
                }
            }
        }
        putLeavesTheChips();
    }

    private static void putLeavesTheChips() {
        for (int address = 8189; address <= 8196; address++) {
            Due.no("put(" + address + ")", putOnChips(address));
        }
        for (int address = 8445; address <= 8450; address++) {
            Due.no("put(" + address + ")", putOnChips(address));
        }
    }

    private static boolean putOnChips(int address) {
        KitMachine kit = new KitMachine();
        boolean done = kit.put(address, 0x04040404);
        for (int side = 0; side <= 1; side++) {
            Due.same("direction", kit.port(side, 1), 0);
            Due.same("control", kit.port(side, 2), 0);
        }
        kit.receive(1);
        kit.put(0, 0x01010101);
        kit.run(2);
        Due.same("the serial chip is still reset", kit.serial(2), 1);
        return done;
    }

    private static void peekAByteOfMemory() {
        Sentence.is("A byte of memory (free or read-only)");
        int[] ends = {0, 1023, 64512, 65535};
        for (int address : ends) {
            Bench bench = new Bench();
            bench.dueByte("0 at first", address, 0);
            bench.code(address, 0xFF);
            bench.dueByte("without a sign", address, 255);
        }
    }

    private static void peekNoneIfTheAddressIsNeither() {
        Sentence.is("NONE if the address (which does not wrap) is neither.");
        int[] neither = {-1, -65536, -1024, 1024, 8191, 8192, 8193, 8194, 8195, 8196, 8448, 8449, 64511, 65536,
            65537, 2 * 65536, 65536 + 64512, Integer.MAX_VALUE, Integer.MIN_VALUE};
        for (int address : neither) {
            Bench bench = new Bench().code(0, 9, 9).code(1022, 9, 9).code(64512, 9, 9).code(65534, 9, 9);
            bench.dueByte("neither", address, NONE);
        }
    }

    private static void peekDoesNotTouchTheChips() {
        Sentence.is("(The chips are not touched.)");
        Bench bench = new Bench().write(8193, 0x26).write(8195, 0x26).write(8448, 0);
        for (int side = 0; side <= 1; side++) {
            bench.kit.line(side, 1, true);
        }
        bench.kit.receive(5);
        bench.kit.run(2);
        int[] chips = {8192, 8193, 8194, 8195, 8448, 8449};
        for (int address : chips) {
            bench.dueByte("neither", address, NONE);
        }
        for (int side = 0; side <= 1; side++) {
            bench.duePort("bit 7 is not cleared", side, 2, 0xA6);
            bench.duePort("line 2 is not made 0", side, 4, 1);
        }
        bench.dueSerial("still FULL", 0, 3);
    }
}
