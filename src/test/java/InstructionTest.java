/** The instructions that are no sums: flags, X and S, branches, calls, words, and the illegal ones. */
public final class InstructionTest {
    private static final int CODE = 0xFC9A;

    public static void main(String[] args) {
        checkFlagInstructions();
        checkFlagsThroughA();
        checkIndexCounting();
        checkBranches();
        checkStackRegister();
        checkPushAndPull();
        checkCalls();
        checkCallOverItsOwnBytes();
        checkReturnFromInterrupt();
        checkSoftwareInterrupt();
        checkJumps();
        checkStores();
        checkWordLoads();
        checkWordStores();
        checkCompareXPlaces();
        checkLegality();
        Due.end();
    }

    private static Bench step(int flags, int a, int b, int x, int... code) {
        Bench bench = new Bench().code(CODE, code).start(flags, a, b, x, CODE);
        bench.kit.run(1);
        return bench;
    }

    private static void checkFlagInstructions() {
        int[] opcodes = {0x01, 0x0A, 0x0B, 0x0C, 0x0D, 0x0E, 0x0F};
        int[] cleared = {0, Bench.V, 0, Bench.C, 0, Bench.I, 0};
        int[] set = {0, 0, Bench.V, 0, Bench.C, 0, Bench.I};
        for (int i = 0; i < opcodes.length; i++) {
            for (int before = 0; before < 64; before++) {
                Bench bench = step(before, 3, 4, 5, opcodes[i]);
                bench.due("flags by " + opcodes[i], Bench.FLAGS, before & ~cleared[i] | set[i]);
                bench.due("P by " + opcodes[i], Bench.P, CODE + 1);
                bench.due("A by " + opcodes[i], Bench.A, 3);
            }
        }
    }

    private static void checkFlagsThroughA() {
        for (int v = 0; v < 256; v++) {
            Bench in = step(0x15, v, 4, 5, 0x06);
            in.due("flags from A", Bench.FLAGS, v & 63);
            in.due("A stays", Bench.A, v);
            Bench out = step(v & 63, 1, 4, 5, 0x07);
            out.due("A from flags", Bench.A, v & 63 | 192);
            out.due("flags stay", Bench.FLAGS, v & 63);
        }
    }

    private static void checkIndexCounting() {
        int[] before = {0, 1, 0xFF, 0x7FFF, 0x8000, 0xFFFE, 0xFFFF};
        for (int x : before) {
            for (int flags = 0; flags < 64; flags += 63) {
                int up = x + 1 & 0xFFFF;
                int down = x - 1 & 0xFFFF;
                Bench more = step(flags, 0, 0, x, 0x08);
                more.due("X + 1", Bench.X, up);
                more.due("Z alone", Bench.FLAGS, flags & ~Bench.Z | (up == 0 ? Bench.Z : 0));
                Bench less = step(flags, 0, 0, x, 0x09);
                less.due("X - 1", Bench.X, down);
                less.due("Z alone", Bench.FLAGS, flags & ~Bench.Z | (down == 0 ? Bench.Z : 0));
            }
        }
    }

    private static boolean isTaken(int opcode, int flags) {
        boolean c = (flags & Bench.C) != 0;
        boolean v = (flags & Bench.V) != 0;
        boolean z = (flags & Bench.Z) != 0;
        boolean n = (flags & Bench.N) != 0;
        switch (opcode) {
            case 0x22: return !c && !z;
            case 0x23: return c || z;
            case 0x24: return !c;
            case 0x25: return c;
            case 0x26: return !z;
            case 0x27: return z;
            case 0x28: return !v;
            case 0x29: return v;
            case 0x2A: return !n;
            case 0x2B: return n;
            case 0x2C: return n == v;
            case 0x2D: return n != v;
            case 0x2E: return !z && n == v;
            case 0x2F: return z || n != v;
            default: return true;
        }
    }

    private static void checkBranches() {
        int[] distances = {0, 1, 127, 128, 254, 255};
        for (int opcode = 0x20; opcode <= 0x2F; opcode++) {
            for (int flags = 0; flags < 64 && opcode != 0x21; flags++) {
                for (int distance : distances) {
                    Bench bench = step(flags, 0, 0, 0, opcode, distance);
                    int want = CODE + 2 + (isTaken(opcode, flags) ? (byte) distance : 0);
                    bench.due("branch " + opcode + " with flags " + flags, Bench.P, want);
                    bench.due("flags stay", Bench.FLAGS, flags);
                }
            }
        }
        Bench down = new Bench().code(0, 0x20, 0xFC).start(0, 0, 0, 0, 0);
        down.kit.run(1);
        down.due("branch below 0", Bench.P, 0xFFFE);
        Bench up = new Bench().start(0, 0, 0, 0, 0xFFFA).code(0xFFFA, 0x20, 0x10);
        up.kit.run(1);
        up.due("branch beyond 65535", Bench.P, 0x000C);
    }

    private static void checkStackRegister() {
        Bench toX = step(0x3F, 0, 0, 7, 0x30);
        toX.due("X is S + 1", Bench.X, Bench.STACK + 1);
        toX.due("flags stay", Bench.FLAGS, 0x3F);
        step(0, 0, 0, 7, 0x31).due("S + 1", Bench.S, Bench.STACK + 1);
        step(0, 0, 0, 7, 0x34).due("S - 1", Bench.S, Bench.STACK - 1);
        Bench fromX = step(0x0F, 0, 0, 0x1234, 0x35);
        fromX.due("S is X - 1", Bench.S, 0x1233);
        fromX.due("X stays", Bench.X, 0x1234);
        fromX.due("flags stay", Bench.FLAGS, 0x0F);
        step(0, 0, 0, 0, 0x35).due("S is X - 1 below 0", Bench.S, 0xFFFF);
        // LDS #FFFFh; then TSX, INS
        Bench top = Bench.running(0x8E, 0xFF, 0xFF, 0x30, 0x31, 0x34);
        top.kit.run(2);
        top.due("X is S + 1 beyond 65535", Bench.X, 0);
        top.kit.run(1);
        top.due("S + 1 beyond 65535", Bench.S, 0);
        top.kit.run(1);
        top.due("S - 1 below 0", Bench.S, 0xFFFF);
    }

    private static void checkPushAndPull() {
        Bench pushA = step(0x3F, 0x91, 0x82, 0, 0x36);
        pushA.dueByte("A pushed to S", Bench.STACK, 0x91);
        pushA.due("then S - 1", Bench.S, Bench.STACK - 1);
        pushA.due("flags stay", Bench.FLAGS, 0x3F);
        Bench pushB = step(0, 0x91, 0x82, 0, 0x37);
        pushB.dueByte("B pushed to S", Bench.STACK, 0x82);
        pushB.due("then S - 1", Bench.S, Bench.STACK - 1);
        Bench pullA = new Bench().code(CODE, 0x32, 0x33).code(Bench.STACK + 1, 0x80, 0x00);
        pullA.start(0x17, 1, 2, 0, CODE);
        pullA.kit.run(1);
        pullA.due("A pulled", Bench.A, 0x80);
        pullA.due("S + 1", Bench.S, Bench.STACK + 1);
        pullA.due("flags stay", Bench.FLAGS, 0x17);
        pullA.kit.run(1);
        pullA.due("B pulled", Bench.B, 0);
        pullA.due("flags stay", Bench.FLAGS, 0x17);
        // LDS #0; PSHA; PSHB; the second one is lost in the read-only part
        Bench wrap = Bench.running(0x86, 7, 0x8E, 0, 0, 0x36, 0x36, 0x32, 0x32);
        wrap.kit.run(4);
        wrap.due("S below 0", Bench.S, 0xFFFE);
        wrap.dueByte("pushed to 0", 0, 7);
        wrap.kit.run(2);
        wrap.due("S back", Bench.S, 0);
        wrap.due("pulled from 0", Bench.A, 7);
    }

    private static void checkCalls() {
        Bench near = step(0x2A, 0, 0, 0, 0x8D, 0xF0);
        near.due("8D", Bench.P, CODE + 2 - 16);
        checkPushedWord(near, CODE + 2);
        near.due("flags stay", Bench.FLAGS, 0x2A);
        step(0, 0, 0, 0, 0x8D, 0x7F).due("8D up", Bench.P, CODE + 2 + 127);
        Bench indexed = step(0x2A, 0, 0, 0xFFF0, 0xAD, 0x20);
        indexed.due("AD", Bench.P, 0x10);
        checkPushedWord(indexed, CODE + 2);
        Bench extended = step(0x2A, 0, 0, 0, 0xBD, 0x12, 0x34);
        extended.due("BD", Bench.P, 0x1234);
        checkPushedWord(extended, CODE + 3);
        extended.due("flags stay", Bench.FLAGS, 0x2A);
        Bench back = new Bench().code(CODE, 0xBD, 0x01, 0x00).code(0x100, 0x39).start(0, 0, 0, 0, CODE);
        back.kit.run(2);
        back.due("P pulled", Bench.P, CODE + 3);
        back.due("S back", Bench.S, Bench.STACK);
    }

    private static void checkPushedWord(Bench bench, int want) {
        bench.dueByte("lower byte first", Bench.STACK, want & 0xFF);
        bench.dueByte("higher byte then", Bench.STACK - 1, want >> 8);
        bench.due("S - 2", Bench.S, Bench.STACK - 2);
    }

    private static void checkCallOverItsOwnBytes() {
        int at = Bench.STACK - 1;
        Bench near = new Bench().start(0, 0, 0, 0, at).code(at, 0x8D, 0x10);
        near.kit.run(1);
        near.due("the distance is read before the push", Bench.P, at + 2 + 16);
        Bench far = new Bench().start(0, 0, 0, 0, at).code(at, 0xBD, 0x01, 0x23);
        far.kit.run(1);
        far.due("the address is read before the push", Bench.P, 0x0123);
    }

    private static void checkReturnFromInterrupt() {
        Bench bench = new Bench().code(CODE, 0x3B);
        bench.code(Bench.STACK + 1, 0xFF, 0x22, 0x33, 0x44, 0x55, 0x66, 0x77);
        bench.start(0, 9, 9, 9, CODE);
        bench.kit.run(1);
        int[] want = {0x33, 0x22, 0x4455, Bench.STACK + 7, 0x6677, 63, 0, 0};
        for (int what = 0; what < want.length; what++) {
            bench.due("3B", what, want[what]);
        }
    }

    private static void checkSoftwareInterrupt() {
        Bench bench = step(0x2F, 0x11, 0x22, 0x3344, 0x3F);
        bench.due("P is the word at 65530", Bench.P, Bench.SWI_CODE);
        bench.due("I is set", Bench.FLAGS, 0x3F);
        bench.due("S - 7", Bench.S, Bench.STACK - 7);
        bench.due("waits not", Bench.WAITS, 0);
        checkFrame(bench, CODE + 1, 0xEF);
    }

    private static void checkFrame(Bench bench, int behind, int flags) {
        int[] want = {behind & 0xFF, behind >> 8, 0x44, 0x33, 0x11, 0x22, flags};
        for (int i = 0; i < want.length; i++) {
            bench.dueByte("frame byte " + i, Bench.STACK - i, want[i]);
        }
    }

    private static void checkJumps() {
        step(0x3F, 0, 0, 0x4000, 0x6E, 0xFF).due("6E", Bench.P, 0x40FF);
        step(0x3F, 0, 0, 0xFFFF, 0x6E, 0x02).due("6E wraps", Bench.P, 1);
        Bench far = step(0x3F, 0, 0, 0, 0x7E, 0xAB, 0xCD);
        far.due("7E", Bench.P, 0xABCD);
        far.due("flags stay", Bench.FLAGS, 0x3F);
        far.due("S stays", Bench.S, Bench.STACK);
    }

    private static void checkStores() {
        int[] values = {0, 1, 0x7F, 0x80, 0xFF};
        for (int v : values) {
            int told = 0x31 | (v == 0 ? Bench.Z : 0) | (v >= 128 ? Bench.N : 0);
            checkStore(step(0x3F, v, 0x5A, 0x100, 0x97, 0x40), 0x40, v, told, 2);
            checkStore(step(0x3F, v, 0x5A, 0x100, 0xA7, 0xFF), 0x1FF, v, told, 2);
            checkStore(step(0x3F, v, 0x5A, 0x100, 0xB7, 0x02, 0x03), 0x203, v, told, 3);
            checkStore(step(0x3F, 0x5A, v, 0x100, 0xD7, 0x40), 0x40, v, told, 2);
            checkStore(step(0x3F, 0x5A, v, 0x100, 0xE7, 0xFF), 0x1FF, v, told, 2);
            checkStore(step(0x3F, 0x5A, v, 0x100, 0xF7, 0x02, 0x03), 0x203, v, told, 3);
        }
    }

    private static void checkStore(Bench bench, int address, int v, int flags, int size) {
        bench.dueByte("stored", address, v);
        bench.due("told", Bench.FLAGS, flags);
        bench.due("P behind", Bench.P, CODE + size);
    }

    private static int wordFlags(int v, int before) {
        return before & 0x31 | (v == 0 ? Bench.Z : 0) | (v >= 0x8000 ? Bench.N : 0);
    }

    private static void checkWordLoads() {
        int[] values = {0, 1, 0x80, 0x7FFF, 0x8000, 0xFFFF, 0x1234, 0x0100};
        for (int v : values) {
            for (int upper = 8; upper <= 15; upper++) {
                int register = upper < 12 ? Bench.S : Bench.X;
                Bench bench = withWord(upper << 4 | 14, v);
                bench.start(0x3F, 1, 2, 0x0100, CODE);
                bench.kit.run(1);
                bench.due("word loaded by " + upper, register, v);
                bench.due("told by " + upper, Bench.FLAGS, wordFlags(v, 0x3F));
                bench.due("P behind " + upper, Bench.P, CODE + sizeOf(upper));
                bench.due("A stays", Bench.A, 1);
            }
        }
    }

    /** An instruction on a word, which lies at 40h, 1FEh or 2FFh, or in the instruction itself. */
    private static Bench withWord(int opcode, int v) {
        Bench bench = new Bench();
        switch (opcode >> 4 & 3) {
            case 0: return bench.code(CODE, opcode, v >> 8, v);
            case 1: return bench.code(CODE, opcode, 0x40).code(0x40, v >> 8, v);
            case 2: return bench.code(CODE, opcode, 0xFE).code(0x1FE, v >> 8, v);
            default: return bench.code(CODE, opcode, 0x02, 0xFF).code(0x2FF, v >> 8, v);
        }
    }

    private static int sizeOf(int upper) {
        return (upper & 3) == 0 || (upper & 3) == 3 ? 3 : 2;
    }

    private static void checkWordStores() {
        int[] addresses = {0, 0x40, 0x1FE, 0x2FF};
        int[] values = {0, 1, 0x80, 0x7FFF, 0x8000, 0xFFFF, 0x0100};
        for (int v : values) {
            for (int mode = 1; mode <= 3; mode++) {
                // LDS #v first, as S cannot be pulled.
                Bench stack = withWord(0x80 | mode << 4 | 15, 0xDEAD);
                stack.code(CODE - 3, 0x8E, v >> 8, v).start(0x3F, 1, 2, 0x0100, CODE - 3);
                stack.kit.run(2);
                checkWordStored(stack, addresses[mode], v, sizeOf(mode));
            }
        }
        for (int mode = 1; mode <= 3; mode++) {
            int x = mode == 2 ? 0x0100 : 0xC3A5;
            Bench index = withWord(0xC0 | mode << 4 | 15, 0xDEAD).start(0x3F, 1, 2, x, CODE);
            index.kit.run(1);
            checkWordStored(index, addresses[mode], x, sizeOf(mode));
        }
        Bench zero = withWord(0xDF, 0xDEAD).start(0x3F, 1, 2, 0, CODE);
        zero.kit.run(1);
        checkWordStored(zero, 0x40, 0, 2);
    }

    private static void checkWordStored(Bench bench, int address, int v, int size) {
        bench.dueByte("higher byte", address, v >> 8);
        bench.dueByte("lower byte", address + 1, v & 0xFF);
        bench.due("told", Bench.FLAGS, wordFlags(v, 0x3F));
        bench.due("P behind", Bench.P, CODE + size);
    }

    private static void checkCompareXPlaces() {
        for (int upper = 8; upper <= 11; upper++) {
            Bench same = withWord(upper << 4 | 12, 0x0100).start(0x3F, 1, 2, 0x0100, CODE);
            same.kit.run(1);
            same.due("alike", Bench.FLAGS, 0x35);
            same.due("P behind", Bench.P, CODE + sizeOf(upper));
            Bench less = withWord(upper << 4 | 12, 0x0101).start(0, 1, 2, 0x0100, CODE);
            less.kit.run(1);
            less.due("less", Bench.FLAGS, Bench.N);
        }
    }

    /** The legal bytes, written out from the document. */
    private static boolean isLegal(int opcode) {
        String rows = " 01 06 07 08 09 0A 0B 0C 0D 0E 0F 10 11 16 17 19 1B"
            + " 20 22 23 24 25 26 27 28 29 2A 2B 2C 2D 2E 2F"
            + " 30 31 32 33 34 35 36 37 39 3B 3E 3F 6E 7E"
            + " 8C 9C AC BC 8E 9E AE BE CE DE EE FE 9F AF BF DF EF FF 8D AD BD"
            + " 97 A7 B7 D7 E7 F7";
        String digit = Integer.toHexString(opcode & 15).toUpperCase();
        if (opcode >= 0x40 && opcode < 0x80 && "0346789ACDF".contains(digit)) {
            return true;
        }
        if (opcode >= 0x80 && "01245689AB".contains(digit)) {
            return true;
        }
        return rows.contains(String.format(" %02X", opcode));
    }

    private static void checkLegality() {
        int legal = 0;
        for (int opcode = 0; opcode < 256; opcode++) {
            Bench bench = new Bench().code(0x100, opcode, 0x33, 0x44).start(0x15, 1, 2, 3, 0x100);
            Due.same("run", bench.kit.run(2) > 0 ? 1 : 0, 1);
            Bench one = new Bench().code(0x100, opcode, 0x33, 0x44).start(0x15, 1, 2, 3, 0x100);
            Due.same("run(1)", one.kit.run(1), 1);
            String what = "opcode " + Integer.toHexString(opcode);
            one.due(what, Bench.STOPPED, isLegal(opcode) ? 0 : 1);
            if (isLegal(opcode)) {
                legal++;
                continue;
            }
            Due.same(what + " stops at once", bench.kit.run(5), 0);
            int[] want = {1, 2, 3, Bench.STACK, 0x100, 0x15, 0, 1};
            for (int i = 0; i < want.length; i++) {
                one.due(what + " changes nothing", i, want[i]);
            }
        }
        Due.same("legal ones", legal, 197);
    }
}
