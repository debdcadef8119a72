/** A STEP, a new object, reset, run and register at their ends: each test is named after its sentence. */
public final class EdgesOfStepTest {
    private static final int CODE = 0xFD00;
    private static final int I = Bench.I;
    private static final int NONE = KitMachine.NONE;
    private static final int[] NO_COUNTS = {-1, -2, -3000, 3001, 3002, 65536, Integer.MAX_VALUE, Integer.MIN_VALUE};

    public static void main(String[] args) {
        usedForAtMost512Calls();
        allIs0AtFirst();
        hasNotBeenReset();
        resetWaitsNoMoreAndIsNotStopped();
        runStepsNAtMost();
        runThatInWhichItStopsCounts();
        runNoneIfNotUpTo3000();
        registerOfEachWhat();
        registerNoneForAnotherWhat();
        theSerialTimeGoesByFirst();
        interruptPushesAll();
        interruptNotWhileIIsSet();
        waitingNothing();
        waitPushesAll();
        Due.end();
    }

    private static Bench ready(int flags, int a, int b, int x, int... code) {
        return new Bench().code(CODE, code).start(flags, a, b, x, CODE);
    }

    private static void usedForAtMost512Calls() {
        Sentence.is("An object is used for at most 512 calls after it has been made");
        KitMachine kit = new KitMachine();
        // INX; BRA back: two steps for each count
        kit.put(0, 0x0820FD00);
        for (int i = 0; i < 510; i++) {
            Due.same("run(3000)", kit.run(3000), 3000);
        }
        Due.same("the last call, X", kit.register(2), 510 * 1500 % 65536);
        KitMachine other = new KitMachine();
        for (int i = 0; i < 511; i++) {
            other.receive(i);
        }
        Due.same("the last call, the LINE", other.serial(2), 64);
    }

    private static void allIs0AtFirst() {
        Sentence.is("All memory, registers and flags are 0, all lines and pins are 0; it does not wait and is not stopped.");
        int[] starts = {0, 512, 64512, 65024};
        for (int start : starts) {
            KitMachine kit = new KitMachine();
            for (int i = 0; i < 512; i++) {
                Due.same("peek(" + (start + i) + ")", kit.peek(start + i), 0);
            }
        }
        KitMachine kit = new KitMachine();
        for (int what = 0; what <= 7; what++) {
            Due.same("register(" + what + ")", kit.register(what), 0);
        }
        for (int what = 0; what <= 5; what++) {
            Due.same("port(0, " + what + ")", kit.port(0, what), 0);
            Due.same("port(1, " + what + ")", kit.port(1, what), 0);
        }
        Due.same("sent", kit.sent(), 0);
        // It is not stopped, but the 0 at 0 is illegal.
        Due.same("run(5)", kit.run(5), 1);
        Due.same("stopped", kit.register(7), 1);
        Due.same("P", kit.register(4), 0);
    }

    private static void hasNotBeenReset() {
        Sentence.is("(It has not been RESET.)");
        KitMachine kit = new KitMachine();
        kit.put(65532, 0x0000FFFE);
        Due.same("P is not the word at 65534", kit.register(4), 0);
        Due.same("I is not set", kit.register(5), 0);
        kit.reset();
        Due.same("P", kit.register(4), 0xFFFE);
        Due.same("I", kit.register(5), 16);
    }

    private static void resetWaitsNoMoreAndIsNotStopped() {
        Sentence.is("RESET: it waits no more, and is not stopped; the chips stay.");
        Bench waits = ready(0, 1, 2, 3, 0x3E);
        waits.kit.run(5);
        waits.due("waits", Bench.WAITS, 1);
        waits.vectors(CODE + 1).code(CODE + 1, 0x4C).kit.reset();
        waits.due("waits no more", Bench.WAITS, 0);
        waits.kit.run(1);
        waits.due("runs on", Bench.A, 2);
        Bench stops = ready(0, 1, 2, 3, 0x00, 0x4C);
        stops.kit.run(5);
        stops.due("stopped", Bench.STOPPED, 1);
        stops.vectors(CODE + 1).kit.reset();
        stops.due("not stopped", Bench.STOPPED, 0);
        Due.same("runs on", stops.kit.run(1), 1);
        stops.due("A", Bench.A, 2);
        resetLeavesTheChips();
    }

    private static void resetLeavesTheChips() {
        Bench bench = new Bench().write(8192, 0x0F).write(8193, 0x26).write(8192, 0x35).write(8448, 0xA1).write(8449, 7);
        bench.kit.pins(0, 0x90);
        bench.kit.line(0, 1, true);
        bench.kit.receive(8);
        bench.kit.receive(9);
        bench.kit.run(1);
        bench.kit.reset();
        int[] port = {0x05, 0x0F, 0xA6, 1, 1, 0x90};
        for (int what = 0; what < port.length; what++) {
            bench.duePort("stays", 0, what, port[what]);
        }
        int[] serial = {130, 0, 1, 16, 16};
        for (int what = 0; what < serial.length; what++) {
            bench.dueSerial("stays", what, serial[what]);
        }
    }

    private static void runStepsNAtMost() {
        Sentence.is("Steps are done, n at most, while it is not stopped: how many");
        int[] counts = {0, 1, 2, 2999, 3000};
        for (int n : counts) {
            // INX; BRA back
            Bench bench = ready(I, 0, 0, 0, 0x08, 0x20, 0xFD);
            Due.same("run(" + n + ")", bench.kit.run(n), n);
            bench.due("after run(" + n + ")", Bench.X, (n + 1) / 2);
        }
        Bench none = new Bench().write(8448, 1);
        none.kit.receive(1);
        Due.same("run(0)", none.kit.run(0), 0);
        none.dueSerial("no step, no time", 2, 1);
    }

    private static void runThatInWhichItStopsCounts() {
        Sentence.is("(that in which it stops counts)");
        Bench first = ready(I, 0, 0, 0, 0x00);
        Due.same("stopped by the first of nine", first.kit.run(9), 1);
        Due.same("run when stopped", first.kit.run(9), 0);
        Due.same("run(0) when stopped", first.kit.run(0), 0);
        Due.same("run(3000) when stopped", first.kit.run(3000), 0);
        Bench last = ready(I, 0, 0, 0, 0x08, 0x08, 0x00);
        Due.same("stopped by the last of three", last.kit.run(3), 3);
        last.due("stopped", Bench.STOPPED, 1);
        Due.same("run when stopped", last.kit.run(1), 0);
        Bench before = ready(I, 0, 0, 0, 0x08, 0x08, 0x00);
        Due.same("two of three", before.kit.run(2), 2);
        before.due("not yet stopped", Bench.STOPPED, 0);
        Due.same("the third", before.kit.run(3000), 1);
        // NOP; then DEX; BNE back, 1499 times; illegal
        Bench longest = ready(I, 0, 0, 1499, 0x01, 0x09, 0x26, 0xFD, 0x00);
        Due.same("stopped by the last of 3000", longest.kit.run(3000), 3000);
        longest.due("stopped", Bench.STOPPED, 1);
        theStoppingStepIsAWholeStep();
    }

    private static void theStoppingStepIsAWholeStep() {
        Bench bench = new Bench().write(8448, 1).code(CODE, 0x00).start(I, 0, 0, 0, CODE);
        bench.kit.receive(1);
        bench.kit.run(9);
        bench.dueSerial("the serial chip's time went by once", 3, 16);
        bench.kit.run(9);
        bench.dueSerial("and no more", 3, 16);
    }

    private static void runNoneIfNotUpTo3000() {
        Sentence.is("NONE if n is not 0 .. 3000.");
        for (int n : NO_COUNTS) {
            Bench bench = new Bench().write(8448, 1).code(CODE, 0x08, 0x20, 0xFD).start(I, 0, 0, 0, CODE);
            bench.kit.receive(1);
            Due.same("run(" + n + ")", bench.kit.run(n), NONE);
            bench.due("nothing is done", Bench.P, CODE);
            bench.dueSerial("no time goes by", 2, 1);
            Bench stopped = ready(I, 0, 0, 0, 0x00);
            stopped.kit.run(1);
            Due.same("run(" + n + ") when stopped", stopped.kit.run(n), NONE);
        }
    }

    private static void registerOfEachWhat() {
        Sentence.is("What 0: A, 1: B, 2: X, 3: S, 4: P, 5: the flags (6 bits),"
            + " 6: 1 if it waits, 7: 1 if it is stopped, else 0");
        Bench most = new Bench().start(0xFF, 0xFF, 0xFF, 0xFFFF, 0xFFFF);
        int[] want = {255, 255, 65535, Bench.STACK, 65535, 63, 0, 0};
        for (int what = 0; what < want.length; what++) {
            most.due("the largest", what, want[what]);
        }
        Bench least = new Bench().start(0xC0, 0, 0, 0, 0);
        int[] zero = {0, 0, 0, Bench.STACK, 0, 0, 0, 0};
        for (int what = 0; what < zero.length; what++) {
            least.due("the smallest", what, zero[what]);
        }
        Bench high = Bench.withStack(65535, I, 0, 0, 0x3E, 0x01);
        high.due("S", Bench.S, 65535);
        high.kit.run(1);
        high.due("waits", Bench.WAITS, 1);
        high.due("is not stopped", Bench.STOPPED, 0);
        Bench stops = ready(I, 0, 0, 0, 0x00);
        stops.kit.run(1);
        stops.due("does not wait", Bench.WAITS, 0);
        stops.due("is stopped", Bench.STOPPED, 1);
    }

    private static void registerNoneForAnotherWhat() {
        Sentence.is("else 0; NONE for another what.");
        Bench bench = new Bench().start(63, 1, 2, 3, 4);
        int[] others = {-1, -8, 8, 9, 256, 65536, Integer.MAX_VALUE, Integer.MIN_VALUE};
        for (int what : others) {
            bench.due("another what", what, NONE);
        }
    }

    private static void theSerialTimeGoesByFirst() {
        Sentence.is("A STEP: (1) the serial chip's time goes by");
        // A byte that takes one step comes in the second one, and is read in that very step.
        Bench bench = new Bench().write(8448, 0).code(CODE, 0xB6, 0x21, 0x01, 0xB6, 0x21, 0x01);
        bench.start(I, 0x55, 0, 0, CODE);
        bench.kit.receive(0x77);
        bench.kit.run(1);
        bench.due("not yet", Bench.A, 0);
        bench.kit.run(1);
        bench.due("come first, then read", Bench.A, 0x77);
        bench.dueSerial("not FULL any more", 0, 2);
        // It asks in the step in which it comes, and is heard in that step.
        Bench asks = new Bench().write(8448, 0x80).code(CODE, 0x01, 0x01).start(0, 1, 2, 3, CODE);
        asks.kit.receive(1);
        asks.kit.run(2);
        asks.due("taken in the second step", Bench.P, Bench.IRQ_CODE);
        asks.dueByte("P behind the first instruction", Bench.STACK, CODE + 1 & 0xFF);
    }

    private static void interruptPushesAll() {
        Sentence.is("(2) if a chip asks for an interrupt and I is clear: pushed P, X, A, B, flags"
            + " (not pushed, if it WAITs: that did it), I is set, P is the word at 65528, it WAITs no more");
        int behind = Bench.STACK_CODE + 5;
        for (int s = 0; s <= 8; s++) {
            // LDAA #7; STAA 8193: then line 1 of side 0 asks
            Bench bench = Bench.withStack(s, Bench.C | Bench.H, 0, 0x22, 0x86, 7, 0xB7, 0x20, 0x01, 0x01);
            bench.kit.run(2);
            bench.kit.line(0, 1, true);
            bench.kit.run(1);
            int[] frame = {behind & 0xFF, behind >> 8, s + 1, 0, 7, 0x22, 0xE1};
            for (int i = 0; i < frame.length && i <= s; i++) {
                bench.dueByte("from " + s, s - i, frame[i]);
            }
            bench.due("S", Bench.S, s - 7 & 0xFFFF);
            bench.due("P", Bench.P, Bench.IRQ_CODE);
            bench.due("I is set", Bench.FLAGS, Bench.C | Bench.H | I);
        }
        int[] places = {0, 65535};
        for (int p : places) {
            Bench bench = new Bench().write(8448, 0x20).start(0, 1, 2, 3, p);
            bench.kit.run(1);
            bench.dueByte("lower byte of P", Bench.STACK, p & 0xFF);
            bench.dueByte("higher byte of P", Bench.STACK - 1, p >> 8);
            bench.due("P", Bench.P, Bench.IRQ_CODE);
        }
        notPushedIfItWaits();
    }

    private static void notPushedIfItWaits() {
        Bench bench = new Bench().write(8193, 7).code(CODE, 0x3E).start(0, 0x11, 0x22, 0x3344, CODE);
        bench.kit.run(2);
        bench.kit.line(0, 1, true);
        bench.kit.run(1);
        bench.due("pushed once", Bench.S, Bench.STACK - 7);
        bench.dueByte("nothing below", Bench.STACK - 7, 0);
        bench.due("WAITs no more", Bench.WAITS, 0);
        bench.due("P", Bench.P, Bench.IRQ_CODE);
        bench.due("I is set", Bench.FLAGS, I);
    }

    private static void interruptNotWhileIIsSet() {
        Sentence.is("if a chip asks for an interrupt and I is clear");
        // INCA; then I becomes clear (0E, 06, 3B), and the next step is the interrupt
        int[][] codes = {{0x4C, 0x0E}, {0x4C, 0x06}, {0x4C, 0x3B}};
        for (int[] code : codes) {
            Bench bench = new Bench().write(8448, 0x20).code(CODE, code).code(Bench.STACK + 1, 0xC0, 0x22, 0x11);
            bench.start(I, 0x3F, 0, 0, CODE);
            bench.kit.run(2);
            bench.due("I is clear by " + code[1], Bench.FLAGS, 0);
            Due.no("not yet taken", bench.get(Bench.P) == Bench.IRQ_CODE);
            bench.kit.run(1);
            bench.due("taken", Bench.P, Bench.IRQ_CODE);
        }
        Bench held = new Bench().write(8448, 0x20).code(CODE, 0x20, 0xFE).start(I, 0, 0, 0, CODE);
        held.kit.run(3000);
        held.due("never while I is set", Bench.P, CODE);
        Bench quiet = new Bench().write(8448, 0x40).code(CODE, 0x20, 0xFE).start(0, 0, 0, 0, CODE);
        quiet.kit.run(3000);
        quiet.due("never if none asks", Bench.P, CODE);
    }

    private static void waitingNothing() {
        Sentence.is("else, if it WAITs, nothing; else one instruction.");
        Bench bench = new Bench().write(8448, 0x22).code(CODE, 0x3E).start(I, 1, 2, 3, CODE);
        bench.kit.receive(1);
        Due.same("run(3000)", bench.kit.run(3000), 3000);
        int[] want = {1, 2, 3, Bench.STACK - 7, CODE + 1, I, 1, 0};
        for (int what = 0; what < want.length; what++) {
            bench.due("it waits on, for I is set", what, want[what]);
        }
        bench.dueSerial("time goes by", 1, 1);
        Bench one = ready(I, 0, 0, 0, 0x4C, 0x4C);
        one.kit.run(1);
        one.due("one instruction", Bench.A, 1);
    }

    private static void waitPushesAll() {
        Sentence.is("(WAIT pushes P behind it, X, A, B, flags.)");
        int behind = Bench.STACK_CODE + 1;
        for (int s = 0; s <= 8; s++) {
            Bench bench = Bench.withStack(s, 0x2F, 0x11, 0x22, 0x3E);
            bench.kit.run(1);
            int[] frame = {behind & 0xFF, behind >> 8, s + 1, 0, 0x11, 0x22, 0xEF};
            for (int i = 0; i < frame.length && i <= s; i++) {
                bench.dueByte("from " + s, s - i, frame[i]);
            }
            bench.due("S", Bench.S, s - 7 & 0xFFFF);
            bench.due("I stays", Bench.FLAGS, 0x2F);
        }
        Bench end = new Bench().start(I, 1, 2, 3, 65535).code(65535, 0x3E);
        end.kit.run(1);
        end.due("P behind 65535", Bench.P, 0);
        end.dueByte("P behind 65535", Bench.STACK, 0);
        end.dueByte("P behind 65535", Bench.STACK - 1, 0);
    }
}
