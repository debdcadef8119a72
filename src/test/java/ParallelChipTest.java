/** Promises 10, 11 and 12: pins, line and port, with the chip's own ways. */
public final class ParallelChipTest {
    private static final int[] DATA = {8192, 8194};
    private static final int[] CONTROL = {8193, 8195};
    private static final int OUT = 0;
    private static final int DIRECTION = 1;
    private static final int CONTROLS = 2;
    private static final int LINE_1 = 3;
    private static final int LINE_2 = 4;
    private static final int PINS = 5;

    public static void main(String[] args) {
        for (int side = 0; side <= 1; side++) {
            checkPins(side);
            checkOutputAndDirection(side);
            checkControlBits(side);
            checkFirstLine(side);
            checkSecondLine(side);
            checkReadingClears(side);
            checkSecondLineToldByBit(side);
            checkHandshakeUntilFirstLine(side);
            checkHandshakeUntilStepEnd(side);
            checkHandshakeWithDirection(side);
            checkBackToInput(side);
            checkSidesApart(side);
            checkWordOnSide(side);
            for (int control = 0; control < 64; control++) {
                checkLinesUnderControl(side, control);
                checkAccessUnderControl(side, control);
            }
        }
        checkSecondFirstLineAgain();
        checkClearDoesNotRead();
        checkPulseCutByControl();
        checkWordsReadOrWriteAlone();
        checkWrongSides();
        Due.end();
    }

    private static void checkPins(int side) {
        Bench bench = new Bench();
        Due.yes("pins", bench.kit.pins(side, 0xFFFFFFA5));
        bench.duePort("lowest 8 bits", side, PINS, 0xA5);
        Due.yes("pins", bench.kit.pins(side, 0x100));
        bench.duePort("lowest 8 bits", side, PINS, 0);
        bench.duePort("the output is not touched", side, OUT, 0);
    }

    private static void checkOutputAndDirection(int side) {
        Bench bench = new Bench().write(DATA[side], 0xF0);
        bench.duePort("direction", side, DIRECTION, 0xF0);
        bench.duePort("no output", side, OUT, 0);
        Due.same("reading the direction", bench.read(DATA[side]), 0xF0);
        bench.write(CONTROL[side], 4).write(DATA[side], 0x3C);
        bench.duePort("bits that are out", side, OUT, 0x30);
        bench.duePort("direction stays", side, DIRECTION, 0xF0);
        bench.kit.pins(side, 0x5A);
        Due.same("reading the output", bench.read(DATA[side]), 0x3A);
        bench.write(CONTROL[side], 0).write(DATA[side], 0xFF);
        bench.duePort("all of the output is kept", side, OUT, 0x3C);
        bench.write(DATA[side], 0);
        bench.duePort("nothing is out", side, OUT, 0);
        bench.write(CONTROL[side], 4);
        Due.same("pins alone", bench.read(DATA[side]), 0x5A);
    }

    private static void checkControlBits(int side) {
        for (int v = 0; v < 256; v += 5) {
            Bench bench = new Bench().write(CONTROL[side], v);
            bench.duePort("lowest 6 bits", side, CONTROLS, v & 63);
            Due.same("read", bench.read(CONTROL[side]), v & 63);
        }
        Bench seen = new Bench().write(CONTROL[side], 0x12);
        seen.kit.line(side, 1, true);
        seen.kit.line(side, 2, true);
        seen.duePort("both seen", side, CONTROLS, 0xD2);
        Due.same("reading the control clears nothing", seen.read(CONTROL[side]), 0xD2);
        seen.write(CONTROL[side], 0x3F);
        seen.duePort("writing clears nothing either", side, CONTROLS, 0xFF);
        seen.write(CONTROL[side], 0);
        seen.duePort("nor so", side, CONTROLS, 0xC0);
    }

    private static void checkFirstLine(int side) {
        Bench falls = new Bench();
        Due.yes("line", falls.kit.line(side, 1, false));
        falls.duePort("no change", side, CONTROLS, 0);
        Due.yes("line", falls.kit.line(side, 1, true));
        falls.duePort("line 1", side, LINE_1, 1);
        falls.duePort("rising is not seen", side, CONTROLS, 0);
        falls.kit.line(side, 1, true);
        falls.duePort("no change", side, CONTROLS, 0);
        falls.kit.line(side, 1, false);
        falls.duePort("line 1", side, LINE_1, 0);
        falls.duePort("falling is seen", side, CONTROLS, 0x80);
        falls.duePort("line 2 is not touched", side, LINE_2, 0);
        Bench rises = new Bench().write(CONTROL[side], 2);
        rises.kit.line(side, 1, true);
        rises.duePort("rising is seen", side, CONTROLS, 0x82);
        Bench down = new Bench();
        down.kit.line(side, 1, true);
        down.write(CONTROL[side], 0x12);
        down.kit.line(side, 1, true);
        down.kit.line(side, 1, false);
        down.duePort("falling is not seen", side, CONTROLS, 0x12);
    }

    private static void checkSecondLine(int side) {
        Bench falls = new Bench().write(CONTROL[side], 0x02);
        Due.yes("line", falls.kit.line(side, 2, true));
        falls.duePort("line 2", side, LINE_2, 1);
        falls.duePort("rising is not seen", side, CONTROLS, 0x02);
        Due.yes("line", falls.kit.line(side, 2, false));
        falls.duePort("falling is seen", side, CONTROLS, 0x42);
        falls.duePort("line 1 is not touched", side, LINE_1, 0);
        Bench rises = new Bench().write(CONTROL[side], 0x10);
        rises.kit.line(side, 2, false);
        rises.duePort("no change", side, CONTROLS, 0x10);
        rises.kit.line(side, 2, true);
        rises.duePort("rising is seen", side, CONTROLS, 0x50);
    }

    private static void checkReadingClears(int side) {
        Bench bench = new Bench().write(CONTROL[side], 0x12);
        bench.kit.line(side, 1, true);
        bench.kit.line(side, 2, true);
        bench.read(DATA[side]);
        bench.duePort("reading the direction clears nothing", side, CONTROLS, 0xD2);
        bench.write(CONTROL[side], 0x16).write(DATA[side], 1);
        bench.duePort("writing the output clears nothing", side, CONTROLS, 0xD6);
        bench.read(DATA[side]);
        bench.duePort("reading the output clears both", side, CONTROLS, 0x16);
        bench.duePort("the lines stay", side, LINE_1, 1);
        bench.duePort("the lines stay", side, LINE_2, 1);
    }

    private static void checkSecondLineToldByBit(int side) {
        Bench bench = new Bench().write(CONTROL[side], 0x38);
        bench.duePort("bit 3", side, LINE_2, 1);
        Due.no("an output", bench.kit.line(side, 2, false));
        bench.duePort("stays", side, LINE_2, 1);
        bench.write(CONTROL[side], 0x34);
        bench.duePort("bit 3", side, LINE_2, 0);
        Due.no("an output", bench.kit.line(side, 2, true));
        bench.duePort("stays", side, LINE_2, 0);
        bench.duePort("nothing seen", side, CONTROLS, 0x34);
        bench.write(CONTROL[side], 0x3E);
        bench.read(DATA[side]);
        bench.write(DATA[side], 0);
        bench.duePort("reading and writing do nothing to it", side, LINE_2, 1);
        bench.write(CONTROL[side], 0x36);
        bench.kit.line(side, 1, true);
        bench.duePort("line 1 does nothing to it", side, LINE_2, 0);
        bench.kit.run(3);
        bench.duePort("nor the end of a step", side, LINE_2, 0);
    }

    /** The access that makes line 2 0: reading on side 0, writing on side 1. */
    private static void strobe(Bench bench, int side) {
        readOrWrite(bench, side, side == 0);
    }

    private static void otherAccess(Bench bench, int side) {
        readOrWrite(bench, side, side != 0);
    }

    private static void readOrWrite(Bench bench, int side, boolean reading) {
        if (reading) {
            bench.read(DATA[side]);
        } else {
            bench.write(DATA[side], 0x11);
        }
    }

    private static void checkHandshakeUntilFirstLine(int side) {
        Bench bench = new Bench().write(CONTROL[side], 0x26);
        bench.duePort("1 when so written", side, LINE_2, 1);
        Due.no("an output", bench.kit.line(side, 2, false));
        otherAccess(bench, side);
        bench.duePort("not by the other access", side, LINE_2, 1);
        strobe(bench, side);
        bench.duePort("0", side, LINE_2, 0);
        bench.kit.run(50);
        bench.duePort("stays 0", side, LINE_2, 0);
        Due.yes("line", bench.kit.line(side, 1, true));
        bench.duePort("1 again", side, LINE_2, 1);
        bench.duePort("seen", side, CONTROLS, 0xA6);
        strobe(bench, side);
        bench.kit.line(side, 1, false);
        bench.duePort("not by an edge that is not seen", side, LINE_2, 0);
        bench.write(CONTROL[side], 0x26);
        bench.duePort("1 when so written again", side, LINE_2, 1);
    }

    private static void checkHandshakeUntilStepEnd(int side) {
        Bench bench = new Bench().write(CONTROL[side], 0x2C);
        bench.duePort("1 when so written", side, LINE_2, 1);
        Due.no("an output", bench.kit.line(side, 2, false));
        strobe(bench, side);
        bench.duePort("1 again at the end of the step", side, LINE_2, 1);
        otherAccess(bench, side);
        bench.duePort("still 1", side, LINE_2, 1);
        // From the other kind, with line 2 at 0.
        bench.write(CONTROL[side], 0x24);
        strobe(bench, side);
        bench.duePort("0", side, LINE_2, 0);
        bench.write(CONTROL[side], 0x2C);
        bench.duePort("1", side, LINE_2, 1);
    }

    private static void checkHandshakeWithDirection(int side) {
        Bench bench = new Bench().write(CONTROL[side], 0x22);
        bench.read(DATA[side]);
        bench.write(DATA[side], 0xFF);
        bench.duePort("the direction makes nothing 0", side, LINE_2, 1);
    }

    private static void checkBackToInput(int side) {
        Bench bench = new Bench().write(CONTROL[side], 0x38).write(CONTROL[side], 0x00);
        bench.duePort("line 2 stays as it was told", side, LINE_2, 1);
        Due.yes("an input again", bench.kit.line(side, 2, false));
        bench.duePort("falling is seen", side, CONTROLS, 0x40);
        bench.write(CONTROL[side], 0x30);
        bench.duePort("bit 6 stays", side, CONTROLS, 0x70);
        bench.write(CONTROL[side], 0x10);
        Due.yes("an input again", bench.kit.line(side, 2, true));
        bench.duePort("line 2", side, LINE_2, 1);
    }

    private static void checkSidesApart(int side) {
        int other = 1 - side;
        Bench bench = new Bench().write(DATA[side], 0xFF).write(CONTROL[side], 0x3E).write(DATA[side], 0x77);
        bench.kit.pins(side, 0x55);
        bench.kit.line(side, 1, true);
        for (int what = 0; what <= 5; what++) {
            bench.duePort("the other side", other, what, 0);
        }
        int[] want = {0x77, 0xFF, 0xBE, 1, 1, 0x55};
        for (int what = 0; what <= 5; what++) {
            bench.duePort("the side", side, what, want[what]);
        }
    }

    private static void checkWordOnSide(int side) {
        Bench bench = new Bench().write(CONTROL[side], 0x06);
        bench.kit.line(side, 1, true);
        bench.kit.pins(side, 0x5A);
        // LDX of the side: the read of the output comes first and clears bit 7.
        bench.code(0xFC00, 0xFE, 0x20, 2 * side).start(Bench.I, 0, 0, 0, 0xFC00);
        bench.kit.run(1);
        bench.due("higher byte first", Bench.X, 0x5A06);
        // STX to the side: the output, then the control.
        bench.code(0xFC00, 0xFF, 0x20, 2 * side).start(Bench.I, 0, 0, 0x8100, 0xFC00);
        bench.kit.run(1);
        bench.duePort("the control then", side, CONTROLS, 0);
        bench.duePort("not the direction", side, DIRECTION, 0);
        bench.write(DATA[side], 0xFF);
        bench.duePort("the output first", side, OUT, 0x81);
    }

    private static boolean bit(int control, int number) {
        return (control >> number & 1) != 0;
    }

    private static void checkLinesUnderControl(int side, int control) {
        String what = "control " + control;
        for (int level = 0; level <= 1; level++) {
            boolean high = level == 1;
            Bench first = new Bench();
            first.kit.line(side, 1, !high);
            first.write(CONTROL[side], control);
            int before = first.kit.port(side, CONTROLS);
            first.kit.line(side, 1, high);
            boolean seen = bit(control, 1) == high;
            first.duePort(what + ", line 1 to " + level, side, CONTROLS, before | (seen ? 0x80 : 0));
            Bench second = new Bench();
            second.kit.line(side, 2, !high);
            second.write(CONTROL[side], control);
            before = second.kit.port(side, CONTROLS);
            boolean told = second.kit.line(side, 2, high);
            Due.same(what + ", line 2", told ? 1 : 0, bit(control, 5) ? 0 : 1);
            seen = told && bit(control, 4) == high;
            second.duePort(what + ", line 2 to " + level, side, CONTROLS, before | (seen ? 0x40 : 0));
        }
    }

    private static void checkAccessUnderControl(int side, int control) {
        String what = "control " + control;
        boolean chosen = bit(control, 2);
        Bench bench = new Bench().write(CONTROL[side], control).write(DATA[side], 0x3C);
        bench.duePort(what + ", direction", side, DIRECTION, chosen ? 0 : 0x3C);
        bench.kit.pins(side, 0x99);
        Due.same(what + ", read", bench.read(DATA[side]), chosen ? 0x99 : 0x3C);
        int second = 0;
        if (bit(control, 5)) {
            second = bit(control, 3) || !bit(control, 4) && !chosen ? 1 : 0;
        }
        bench.duePort(what + ", line 2", side, LINE_2, second);
        bench.kit.line(side, 1, true);
        bench.kit.line(side, 1, false);
        boolean again = bit(control, 5) && !bit(control, 4);
        bench.duePort(what + ", line 2 then", side, LINE_2, again ? 1 : second);
    }

    private static void checkSecondFirstLineAgain() {
        // On side 1 a write leaves bit 7, and line 1 tells again.
        Bench bench = new Bench().write(CONTROL[1], 0x26);
        bench.kit.line(1, 1, true);
        bench.write(DATA[1], 1);
        bench.duePort("bit 7 still set", 1, CONTROLS, 0xA6);
        bench.duePort("0", 1, LINE_2, 0);
        bench.kit.line(1, 1, false);
        bench.kit.line(1, 1, true);
        bench.duePort("1 again", 1, LINE_2, 1);
    }

    private static void checkClearDoesNotRead() {
        Bench clear = new Bench().write(CONTROL[0], 0x26);
        clear.kit.line(0, 1, true);
        clear.code(0xFC00, 0x7F, 0x20, 0x00).start(Bench.I, 0, 0, 0, 0xFC00);
        clear.kit.run(1);
        clear.duePort("CLR does not read", 0, CONTROLS, 0xA6);
        clear.duePort("CLR does not read", 0, LINE_2, 1);
        clear.code(0xFC00, 0x7D, 0x20, 0x00).start(Bench.I, 0, 0, 0, 0xFC00);
        clear.kit.run(1);
        clear.duePort("TST reads", 0, CONTROLS, 0x26);
        clear.duePort("TST reads", 0, LINE_2, 0);
        Bench test = new Bench().write(CONTROL[1], 0x26);
        test.code(0xFC00, 0x7D, 0x20, 0x02).start(Bench.I, 0, 0, 0, 0xFC00);
        test.kit.run(1);
        test.duePort("TST does not write", 1, LINE_2, 1);
        test.code(0xFC00, 0x7C, 0x20, 0x02).start(Bench.I, 0, 0, 0, 0xFC00);
        test.kit.run(1);
        test.duePort("INC writes", 1, LINE_2, 0);
    }

    private static void checkPulseCutByControl() {
        // STX 8194: the output makes line 2 0, then it becomes an input in the same step.
        Bench bench = new Bench().write(CONTROL[1], 0x2C);
        bench.code(0xFC00, 0xFF, 0x20, 0x02).start(Bench.I, 0, 0, 0x0004, 0xFC00);
        bench.kit.run(1);
        bench.duePort("nothing makes it 1 again", 1, LINE_2, 0);
        Due.yes("an input", bench.kit.line(1, 2, true));
    }

    private static void checkWordsReadOrWriteAlone() {
        // LDX, LDS, CPX of 8193: the lower byte is the output of side 1, which a write would tell.
        int[] readers = {0xFE, 0xBE, 0xBC};
        for (int opcode : readers) {
            Bench bench = new Bench().write(CONTROL[1], 0x26);
            bench.code(0xFC00, opcode, 0x20, 0x01).start(Bench.I, 0, 0, 0, 0xFC00);
            bench.kit.run(1);
            bench.duePort("a word is only read", 1, LINE_2, 1);
        }
        // STX, STS to 8449: a read would make the serial chip not FULL.
        int[] writers = {0xFF, 0xBF};
        for (int opcode : writers) {
            Bench bench = new Bench().write(8448, 0);
            bench.kit.receive(1);
            bench.code(0xFC00, opcode, 0x21, 0x01).start(Bench.I, 0, 0, 0, 0xFC00);
            bench.kit.run(1);
            bench.dueSerial("a word is only written", 0, 1);
        }
    }

    private static void checkWrongSides() {
        Bench bench = new Bench();
        int[] wrong = {-1, 2, 3, Integer.MAX_VALUE, Integer.MIN_VALUE};
        for (int side : wrong) {
            Due.no("pins(" + side + ")", bench.kit.pins(side, 255));
            Due.no("line(" + side + ", 1)", bench.kit.line(side, 1, true));
            Due.no("line(" + side + ", 2)", bench.kit.line(side, 2, true));
            bench.duePort("no such side", side, 0, KitMachine.NONE);
        }
        int[] wrongLines = {-1, 0, 3, 4, Integer.MAX_VALUE, Integer.MIN_VALUE};
        for (int line : wrongLines) {
            Due.no("line(0, " + line + ")", bench.kit.line(0, line, true));
            Due.no("line(1, " + line + ")", bench.kit.line(1, line, true));
        }
        int[] wrongParts = {-1, 6, 7, 256, Integer.MAX_VALUE, Integer.MIN_VALUE};
        for (int what : wrongParts) {
            bench.duePort("no such part", 0, what, KitMachine.NONE);
            bench.duePort("no such part", 1, what, KitMachine.NONE);
        }
        for (int what = 0; what <= 5; what++) {
            bench.duePort("nothing happened", 0, what, 0);
            bench.duePort("nothing happened", 1, what, 0);
        }
    }
}
