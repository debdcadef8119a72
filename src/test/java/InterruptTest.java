/** A step: when a chip's interrupt is taken, what is pushed, and how WAIT goes with it. */
public final class InterruptTest {
    private static final int CODE = 0xFC00;

    public static void main(String[] args) {
        checkTaken();
        checkHeldBack();
        checkTakenAgain();
        checkReturn();
        checkWait();
        checkWaitWithoutInterrupts();
        checkWaitWithoutAsking();
        checkParallelAsks();
        checkSerialAsks();
        checkTimeGoesFirst();
        checkTimeGoesByInEveryStep();
        checkStoppingStep();
        checkCodeInAChip();
        Due.end();
    }

    /** A machine whose side 0 asks. */
    private static Bench asking() {
        Bench bench = new Bench().write(8193, 7);
        bench.kit.line(0, 1, true);
        return bench;
    }

    private static void checkFrame(Bench bench, int p, int flags) {
        int[] want = {p & 0xFF, p >> 8, 0x44, 0x33, 0x11, 0x22, flags};
        for (int i = 0; i < want.length; i++) {
            bench.dueByte("frame byte " + i, Bench.STACK - i, want[i]);
        }
        bench.due("S - 7", Bench.S, Bench.STACK - 7);
    }

    private static void checkTaken() {
        Bench bench = asking().code(CODE, 0x4C).code(Bench.IRQ_CODE, 0x5C);
        bench.start(0x2F, 0x11, 0x22, 0x3344, CODE);
        Due.same("run(1)", bench.kit.run(1), 1);
        bench.due("P is the word at 65528", Bench.P, Bench.IRQ_CODE);
        bench.due("I is set", Bench.FLAGS, 0x3F);
        bench.due("no instruction", Bench.A, 0x11);
        checkFrame(bench, CODE, 0xEF);
        bench.kit.run(1);
        bench.due("then its code", Bench.B, 0x23);
        bench.due("once", Bench.S, Bench.STACK - 7);
    }

    private static void checkHeldBack() {
        Bench bench = asking().code(CODE, 0x4C, 0x0E, 0x4C).start(Bench.I, 1, 2, 3, CODE);
        bench.kit.run(1);
        bench.due("I holds it back", Bench.A, 2);
        bench.kit.run(1);
        bench.due("I cleared", Bench.P, CODE + 2);
        bench.kit.run(1);
        bench.due("taken at once", Bench.P, Bench.IRQ_CODE);
        bench.due("A", Bench.A, 2);
    }

    private static void checkTakenAgain() {
        // The code does not read the output, so it is asked again when I is clear.
        Bench bench = asking().code(CODE, 0x4C).code(Bench.IRQ_CODE, 0x0E);
        bench.start(0, 1, 2, 3, CODE);
        bench.kit.run(3);
        bench.due("P", Bench.P, Bench.IRQ_CODE);
        bench.due("two frames", Bench.S, Bench.STACK - 14);
    }

    private static void checkReturn() {
        // LDAA 8192 (asks no more); RTI
        Bench bench = asking().code(CODE, 0x4C).code(Bench.IRQ_CODE, 0xB6, 0x20, 0x00, 0x3B);
        bench.start(0x0B, 0x11, 0x22, 0x3344, CODE);
        bench.kit.run(3);
        int[] want = {0x11, 0x22, 0x3344, Bench.STACK, CODE, 0x0B, 0, 0};
        for (int what = 0; what < want.length; what++) {
            bench.due("as before", what, want[what]);
        }
        bench.kit.run(1);
        bench.due("goes on", Bench.A, 0x12);
    }

    private static void checkWait() {
        Bench bench = new Bench().write(8193, 7).code(CODE, 0x3E);
        bench.start(0x2F, 0x11, 0x22, 0x3344, CODE);
        bench.kit.run(1);
        bench.due("waits", Bench.WAITS, 1);
        bench.due("flags stay", Bench.FLAGS, 0x2F);
        bench.due("P behind it", Bench.P, CODE + 1);
        checkFrame(bench, CODE + 1, 0xEF);
        Due.same("steps go by", bench.kit.run(100), 100);
        bench.due("waits", Bench.WAITS, 1);
        bench.kit.line(0, 1, true);
        bench.kit.run(1);
        bench.due("waits no more", Bench.WAITS, 0);
        bench.due("P", Bench.P, Bench.IRQ_CODE);
        bench.due("I is set", Bench.FLAGS, 0x3F);
        checkFrame(bench, CODE + 1, 0xEF);
    }

    private static void checkWaitWithoutInterrupts() {
        Bench bench = asking().code(CODE, 0x3E).start(Bench.I, 1, 2, 3, CODE);
        Due.same("run", bench.kit.run(3000), 3000);
        bench.due("waits on", Bench.WAITS, 1);
        bench.due("P", Bench.P, CODE + 1);
        bench.due("S", Bench.S, Bench.STACK - 7);
    }

    private static void checkWaitWithoutAsking() {
        // WAIT when a chip asks already: the interrupt comes before it, and it never waits.
        Bench bench = asking().code(CODE, 0x3E).start(0, 1, 2, 3, CODE);
        bench.kit.run(1);
        bench.due("P", Bench.P, Bench.IRQ_CODE);
        bench.due("waits not", Bench.WAITS, 0);
        bench.dueByte("P before it", Bench.STACK, CODE & 0xFF);
    }

    private static boolean isTaken(Bench bench) {
        bench.code(CODE, 0x01).start(0, 1, 2, 3, CODE);
        bench.kit.run(1);
        return bench.get(Bench.P) == Bench.IRQ_CODE;
    }

    private static void checkParallelAsks() {
        for (int side = 0; side <= 1; side++) {
            for (int control = 0; control < 64; control++) {
                String what = "side " + side + ", control " + control;
                Bench first = new Bench().write(8193 + 2 * side, 2);
                first.kit.line(side, 1, true);
                first.write(8193 + 2 * side, control);
                Due.same(what + ", bit 7", isTaken(first) ? 1 : 0, control & 1);
                Bench second = new Bench().write(8193 + 2 * side, 0x10);
                second.kit.line(side, 2, true);
                second.write(8193 + 2 * side, control);
                boolean want = (control & 0x28) == 0x08;
                Due.same(what + ", bit 6", isTaken(second) ? 1 : 0, want ? 1 : 0);
                Bench none = new Bench().write(8193 + 2 * side, control);
                Due.no(what + ", none", isTaken(none));
            }
        }
    }

    private static void checkSerialAsks() {
        Due.yes("empty", isTaken(new Bench().write(8448, 0x20)));
        Due.no("bit 6", isTaken(new Bench().write(8448, 0x60)));
        Due.no("not full", isTaken(new Bench().write(8448, 0x80)));
        Due.no("reset", isTaken(new Bench().write(8448, 0x23)));
        Bench full = new Bench().write(8448, 0x80);
        full.kit.receive(1);
        full.kit.run(2);
        Due.yes("full", isTaken(full));
        Bench quiet = new Bench().write(8448, 0x40);
        quiet.kit.receive(1);
        quiet.kit.run(2);
        Due.no("full without bit 7", isTaken(quiet));
    }

    private static void checkTimeGoesFirst() {
        Bench bench = new Bench().write(8448, 0x80).code(CODE, 0x01, 0x01, 0x01);
        bench.start(0, 1, 2, 3, CODE);
        bench.kit.receive(1);
        bench.kit.run(1);
        bench.due("on its way", Bench.P, CODE + 1);
        bench.kit.run(1);
        bench.due("come, and taken in the same step", Bench.P, Bench.IRQ_CODE);
    }

    private static void checkTimeGoesByInEveryStep() {
        // While it waits, and in the step of an interrupt, too.
        Bench bench = new Bench().write(8448, 0x81).code(CODE, 0x3E).start(0, 1, 2, 3, CODE);
        bench.kit.receive(1);
        bench.kit.receive(2);
        bench.kit.run(16);
        bench.dueSerial("one step to go", 3, 1);
        bench.due("waits", Bench.WAITS, 1);
        bench.kit.run(1);
        bench.due("waits no more", Bench.WAITS, 0);
        bench.dueSerial("come", 3, 0);
        bench.due("P", Bench.P, Bench.IRQ_CODE);
    }

    private static void checkStoppingStep() {
        Bench bench = new Bench().write(8448, 0x01).code(CODE, 0x00).start(0, 1, 2, 3, CODE);
        bench.kit.receive(1);
        Due.same("run", bench.kit.run(5), 1);
        bench.dueSerial("time went by once", 3, 16);
        Due.same("run", bench.kit.run(5), 0);
        bench.dueSerial("and no more", 3, 16);
        Bench asks = asking().code(CODE, 0x00).start(Bench.I, 1, 2, 3, CODE);
        asks.kit.run(1);
        asks.due("stopped", Bench.STOPPED, 1);
        Due.same("nothing is taken when stopped", asks.kit.run(5), 0);
    }

    private static void checkCodeInAChip() {
        // The byte at P is read as any other: an illegal one in the output clears bit 7.
        Bench bench = new Bench().write(8193, 6);
        bench.kit.line(0, 1, true);
        bench.start(Bench.I, 1, 2, 3, 8192);
        Due.same("run", bench.kit.run(5), 1);
        bench.due("P stays at the byte", Bench.P, 8192);
        bench.duePort("it was read", 0, 2, 6);
        // An illegal byte reads nothing behind it.
        Bench behind = new Bench().write(8448, 0);
        behind.kit.receive(1);
        behind.start(Bench.I, 1, 2, 3, 8448);
        behind.kit.run(1);
        behind.due("stopped", Bench.STOPPED, 1);
        behind.dueSerial("still full", 0, 3);
    }
}
