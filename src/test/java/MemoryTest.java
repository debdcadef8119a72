/** Promises 2 and 3, put and peek, and what a program finds at each address. */
public final class MemoryTest {
    public static void main(String[] args) {
        checkOrder();
        checkPlacesToPut();
        checkPlacesToPeek();
        checkRefusedPutDoesNothing();
        checkReadOnlyForPrograms();
        checkNothingElsewhere();
        checkWords();
        checkAddressesWrap();
        checkChipsUntouchedByPeek();
        Due.end();
    }

    private static void checkOrder() {
        KitMachine kit = new KitMachine();
        Due.yes("put", kit.put(17, 0xFE817F01));
        int[] want = {0, 0xFE, 0x81, 0x7F, 1, 0};
        for (int i = 0; i < want.length; i++) {
            Due.same("peek(" + (16 + i) + ")", kit.peek(16 + i), want[i]);
        }
        Due.yes("put over", kit.put(18, 0x02030405));
        Due.same("kept", kit.peek(17), 0xFE);
        Due.same("changed", kit.peek(18), 2);
        Due.yes("put read-only", kit.put(64513, 0x0A0B0C0D));
        Due.same("read-only", kit.peek(64516), 0x0D);
    }

    private static void checkPlacesToPut() {
        int[] good = {0, 1, 1019, 1020, 64512, 64513, 65531, 65532};
        for (int address : good) {
            KitMachine kit = new KitMachine();
            Due.yes("put(" + address + ")", kit.put(address, 0x11223344));
            Due.same("first of " + address, kit.peek(address), 0x11);
            Due.same("last of " + address, kit.peek(address + 3), 0x44);
        }
        int[] bad = {-1, -3, -4, 1021, 1022, 1023, 1024, 8192, 8194, 8448, 64508, 64509, 64511, 65533,
            65534, 65535, 65536, 65540, 65536 + 64512, Integer.MAX_VALUE, Integer.MAX_VALUE - 2,
            Integer.MIN_VALUE, 64512 - 65536, -1024};
        for (int address : bad) {
            Due.no("put(" + address + ")", new KitMachine().put(address, 1));
        }
    }

    private static void checkPlacesToPeek() {
        KitMachine kit = new KitMachine();
        int[] good = {0, 1023, 64512, 65535};
        for (int address : good) {
            Due.same("peek(" + address + ")", kit.peek(address), 0);
        }
        int[] bad = {-1, 1024, 8192, 8193, 8194, 8195, 8448, 8449, 64511, 65536, 65536 * 2,
            Integer.MAX_VALUE, Integer.MIN_VALUE};
        for (int address : bad) {
            Due.same("peek(" + address + ")", kit.peek(address), KitMachine.NONE);
        }
    }

    private static void checkRefusedPutDoesNothing() {
        int[] bad = {1021, 1023, 64509, 64511, 65533, 65535, -2};
        for (int address : bad) {
            KitMachine kit = new KitMachine();
            kit.put(address, -1);
            for (int i = 0; i < 4; i++) {
                int here = kit.peek(address + i);
                Due.yes("untouched " + (address + i), here == 0 || here == KitMachine.NONE);
                Due.yes("not wrapped", kit.peek(i) == 0);
            }
        }
    }

    private static void checkReadOnlyForPrograms() {
        // LDAA #5; STAA 64600; STAA 1023; STAA 1024
        Bench bench = Bench.running(0x86, 5, 0xB7, 0xFC, 0x58, 0xB7, 0x03, 0xFF, 0xB7, 0x04, 0x00);
        bench.kit.run(4);
        bench.dueByte("write to read-only", 64600, 0);
        bench.dueByte("write to the last free byte", 1023, 5);
        bench.dueByte("nothing beyond", 0, 0);
        bench.due("still running", Bench.P, Bench.ROM + 11);
    }

    private static void checkNothingElsewhere() {
        int[] elsewhere = {1024, 8191, 8196, 8447, 8450, 64511, 0x8000};
        for (int address : elsewhere) {
            int high = address >> 8;
            int low = address & 0xFF;
            // LDAB #7; STAB address; LDAA #9; LDAA address
            Bench bench = Bench.running(0xC6, 7, 0xF7, high, low, 0x86, 9, 0xB6, high, low);
            bench.kit.run(4);
            bench.due("read elsewhere " + address, Bench.A, 0);
        }
    }

    private static void checkWords() {
        // LDX #1234h; STX 20h; LDX #0; LDX FFFFh; STX 3FFh
        Bench bench = Bench.running(0xCE, 0x12, 0x34, 0xDF, 0x20, 0xCE, 0, 0, 0xFE, 0xFF, 0xFF, 0xFF, 0x03, 0xFF);
        bench.code(65535, 0x56).code(0, 0x78);
        bench.kit.run(3);
        bench.dueByte("higher byte first", 0x20, 0x12);
        bench.dueByte("lower byte behind", 0x21, 0x34);
        // The reset vector is there too, but is not needed any more.
        bench.kit.run(1);
        bench.due("the word at 65535 goes on at 0", Bench.X, 0x5678);
        bench.kit.run(1);
        bench.dueByte("half a word", 1023, 0x56);
        bench.dueByte("the other half is lost", 0, 0x78);
    }

    private static void checkAddressesWrap() {
        // LDX #FFF0h; LDAA 20h,X; INC 21h,X
        Bench bench = Bench.running(0xCE, 0xFF, 0xF0, 0xA6, 0x20, 0x6C, 0x21);
        bench.code(0x10, 0x42, 0x50);
        bench.kit.run(3);
        bench.due("indexed beyond 65535", Bench.A, 0x42);
        bench.dueByte("written beyond 65535", 0x11, 0x51);
        // LDS #FFFFh; STS FFFFh
        Bench stack = Bench.running(0x8E, 0xAB, 0xCD, 0xBF, 0xFF, 0xFF);
        stack.kit.run(2);
        stack.dueByte("a word written at 65535 goes on at 0", 0, 0xCD);
        // The instruction itself goes on at 0: LDAA # at 65535.
        Bench over = new Bench().code(0, 0x99).start(0, 0, 0, 0, 65535).code(65535, 0x86);
        over.kit.run(1);
        over.due("operand at 0", Bench.A, 0x99);
        over.due("P behind it", Bench.P, 1);
    }

    private static void checkChipsUntouchedByPeek() {
        // Side 0: control 6, so that a read of the output would clear bit 7.
        Bench bench = Bench.running(0x86, 6, 0xB7, 0x20, 0x01);
        bench.kit.run(2);
        bench.kit.line(0, 1, true);
        bench.kit.peek(8192);
        bench.duePort("peek leaves the chip", 0, 2, 0x86);
    }
}
