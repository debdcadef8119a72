/** Promises 4, 5 and 6: reset, run and register. */
public final class RunTest {
    public static void main(String[] args) {
        checkCounts();
        checkWrongCounts();
        checkStopping();
        checkReset();
        checkResetOutOfWait();
        checkRegister();
        Due.end();
    }

    private static void checkCounts() {
        Bench bench = Bench.running(0x08, 0x20, 0xFD);
        Due.same("run(0)", bench.kit.run(0), 0);
        bench.due("nothing done", Bench.P, Bench.ROM);
        Due.same("run(1)", bench.kit.run(1), 1);
        bench.due("one done", Bench.P, Bench.ROM + 1);
        Due.same("run(3000)", bench.kit.run(3000), 3000);
        bench.due("counted", Bench.X, 1501);
    }

    private static void checkWrongCounts() {
        int[] wrong = {-1, 3001, 3002, 65536, Integer.MAX_VALUE, Integer.MIN_VALUE};
        for (int n : wrong) {
            Bench bench = Bench.running(0x08, 0x20, 0xFD);
            Due.same("run(" + n + ")", bench.kit.run(n), KitMachine.NONE);
            bench.due("nothing done", Bench.P, Bench.ROM);
        }
    }

    private static void checkStopping() {
        Bench bench = Bench.running(0x08, 0x08, 0x00);
        Due.same("run(10)", bench.kit.run(10), 3);
        bench.due("stopped", Bench.STOPPED, 1);
        bench.due("P stays at the byte", Bench.P, Bench.ROM + 2);
        Due.same("run when stopped", bench.kit.run(10), 0);
        Due.same("a wrong run when stopped", bench.kit.run(-1), KitMachine.NONE);
        // No step, so no time for the serial chip.
        bench.code(Bench.ROM + 2, 0x01);
        Due.same("stays stopped with another byte there", bench.kit.run(10), 0);
    }

    private static void checkReset() {
        Bench bench = new Bench().start(0x2F, 0x11, 0x22, 0x3344, 0xFC10);
        bench.kit.run(1);
        bench.due("stopped", Bench.STOPPED, 1);
        bench.vectors(0xFC20);
        bench.kit.reset();
        bench.due("A stays", Bench.A, 0x11);
        bench.due("B stays", Bench.B, 0x22);
        bench.due("X stays", Bench.X, 0x3344);
        bench.due("S stays", Bench.S, Bench.STACK);
        bench.due("P is the word at 65534", Bench.P, 0xFC20);
        bench.due("I is set", Bench.FLAGS, 0x3F);
        bench.due("not stopped", Bench.STOPPED, 0);
        bench.code(0xFC20, 0x08);
        Due.same("it runs again", bench.kit.run(1), 1);
        bench.due("X", Bench.X, 0x3345);
    }

    private static void checkResetOutOfWait() {
        // Serial chip: control 15h, side 0: control 7; then WAIT.
        Bench bench = Bench.running(0x8E, 0, 0x80, 0x86, 0x15, 0xB7, 0x21, 0x00, 0x86, 7, 0xB7, 0x20, 0x01, 0x3E);
        bench.kit.receive(9);
        bench.kit.receive(8);
        Due.same("run", bench.kit.run(12), 12);
        bench.due("waits", Bench.WAITS, 1);
        int steps = bench.kit.serial(3);
        bench.kit.reset();
        bench.due("waits no more", Bench.WAITS, 0);
        bench.due("P", Bench.P, Bench.ROM);
        bench.due("S stays", Bench.S, 0x80 - 7);
        bench.duePort("the parallel chip stays", 0, 2, 7);
        bench.dueSerial("the serial chip stays", 3, steps);
        bench.dueSerial("the line stays", 2, 1);
    }

    private static void checkRegister() {
        Bench bench = new Bench().start(0xEA, 0x81, 0x92, 0xA3B4, 0xFC34);
        int[] want = {0x81, 0x92, 0xA3B4, Bench.STACK, 0xFC34, 0x2A, 0, 0};
        for (int what = 0; what < want.length; what++) {
            bench.due("register", what, want[what]);
        }
        int[] wrong = {-1, 8, 9, 256, Integer.MAX_VALUE, Integer.MIN_VALUE};
        for (int what : wrong) {
            bench.due("no such register", what, KitMachine.NONE);
        }
        bench.code(0xFC34, 0x3E);
        bench.kit.run(1);
        bench.due("waits", Bench.WAITS, 1);
        bench.due("not stopped", Bench.STOPPED, 0);
    }
}
