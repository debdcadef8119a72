/** THE PARALLEL CHIP, pins, line and port at their ends: each test is named after its sentence. */
public final class EdgesOfParallelTest {
    private static final int CODE = 0xFD00;
    private static final int[] DATA = {8192, 8194};
    private static final int[] CONTROL = {8193, 8195};
    private static final int OUT = 0;
    private static final int DIRECTION = 1;
    private static final int CONTROLS = 2;
    private static final int LINE_1 = 3;
    private static final int LINE_2 = 4;
    private static final int PINS = 5;
    private static final int NONE = KitMachine.NONE;
    private static final int[] NO_SIDES = {-1, -2, 2, 3, 256, 65536, Integer.MAX_VALUE, Integer.MIN_VALUE};

    public static void main(String[] args) {
        controlAll0AtFirst();
        itsLowest6BitsCanBeWritten();
        theOutputIfBit2IsSetElseTheDirection();
        readingOutputOfTheBitsThatAreOut();
        readingOutputClearsBits7And6();
        line1SetsBit7();
        line2SetsBit6WhileBit5IsNotSet();
        line2IsBit3();
        readingOrWritingMakesIt0();
        oneAgainWhenBit7IsSetByLine1();
        oneAgainAtTheEndOfTheStep();
        whenTheControlIsWrittenItIs1();
        asksForAnInterrupt();
        pinsTheLowest8Bits();
        pinsFalseIfNoSuchSide();
        lineSetFromOutside();
        lineFalseIfNoSuchSideOrLine();
        lineFalseIfItIsAnOutput();
        portOutputBitsThatAreOut();
        portNoneForNoSuchSideOrAnotherWhat();
        Due.end();
    }

    private static Bench withControl(int side, int control) {
        return new Bench().write(CONTROL[side], control);
    }

    /** Reads OUTPUT on side 0, writes it on side 1: what makes line 2 of a handshake 0. */
    private static void strobe(Bench bench, int side) {
        access(bench, side, side == 0);
    }

    private static void access(Bench bench, int side, boolean reading) {
        if (reading) {
            bench.read(DATA[side]);
        } else {
            bench.write(DATA[side], 0x55);
        }
    }

    private static void controlAll0AtFirst() {
        Sentence.is("each with an OUTPUT, a DIRECTION (bit set: out) and a CONTROL (8 bits; all 0 at first)");
        for (int side = 0; side <= 1; side++) {
            Bench bench = new Bench();
            bench.duePort("at first", side, OUT, 0);
            bench.duePort("at first", side, DIRECTION, 0);
            bench.duePort("at first", side, CONTROLS, 0);
            Due.same("the control", bench.read(CONTROL[side]), 0);
            Due.same("the direction", bench.read(DATA[side]), 0);
            // The output shows when all bits are out.
            bench.write(DATA[side], 0xFF);
            bench.duePort("the output", side, OUT, 0);
            bench.duePort("all bits out", side, DIRECTION, 255);
        }
    }

    private static void itsLowest6BitsCanBeWritten() {
        Sentence.is("Its higher address is the CONTROL: its lowest 6 bits can be written.");
        int[][] rows = {{0, 0}, {0x3F, 0x3F}, {0x40, 0}, {0x80, 0}, {0xC0, 0}, {0xFF, 0x3F}, {0xC1, 0x01}};
        for (int side = 0; side <= 1; side++) {
            for (int[] row : rows) {
                Bench bench = withControl(side, row[0]);
                bench.duePort("written " + row[0], side, CONTROLS, row[1]);
                Due.same("read", bench.read(CONTROL[side]), row[1]);
            }
            Bench seen = withControl(side, 0x12);
            seen.kit.line(side, 1, true);
            seen.kit.line(side, 2, true);
            seen.write(CONTROL[side], 0x00);
            seen.duePort("bits 7 and 6 are not cleared by writing 0", side, CONTROLS, 0xC0);
            seen.write(CONTROL[side], 0xFF);
            seen.duePort("nor by writing 255", side, CONTROLS, 0xFF);
        }
    }

    private static void theOutputIfBit2IsSetElseTheDirection() {
        Sentence.is("Its lower one is the OUTPUT, if bit 2 of the control is set, else the DIRECTION");
        for (int side = 0; side <= 1; side++) {
            for (int control = 0; control < 64; control++) {
                Bench bench = new Bench().write(DATA[side], 0xF0).write(CONTROL[side], control).write(DATA[side], 0xCC);
                boolean output = (control & 4) != 0;
                bench.duePort("control " + control, side, DIRECTION, output ? 0xF0 : 0xCC);
                bench.duePort("control " + control, side, OUT, output ? 0xC0 : 0);
                bench.kit.pins(side, 0x0A);
                Due.same("read, control " + control, bench.read(DATA[side]), output ? 0xCA : 0xCC);
            }
        }
    }

    private static void readingOutputOfTheBitsThatAreOut() {
        Sentence.is("reading OUTPUT: of the bits that are out the output's, of others the input's");
        int[][] rows = {{0x00, 0xFF, 0x00, 0x00}, {0x00, 0x00, 0xFF, 0xFF}, {0xFF, 0xFF, 0x00, 0xFF},
            {0xFF, 0x00, 0xFF, 0x00}, {0xF0, 0xAA, 0x55, 0xA5}, {0x01, 0xFE, 0xFF, 0xFE}, {0x80, 0x80, 0x00, 0x80}};
        for (int side = 0; side <= 1; side++) {
            for (int[] row : rows) {
                Bench bench = new Bench().write(DATA[side], row[0]).write(CONTROL[side], 4).write(DATA[side], row[1]);
                bench.kit.pins(side, row[2]);
                Due.same("direction " + row[0] + ", output " + row[1] + ", input " + row[2], bench.read(DATA[side]), row[3]);
            }
        }
    }

    private static void readingOutputClearsBits7And6() {
        Sentence.is("and bits 7 and 6 of the control are cleared");
        for (int side = 0; side <= 1; side++) {
            Bench bench = withControl(side, 0x12);
            bench.kit.line(side, 1, true);
            bench.kit.line(side, 2, true);
            Due.same("reading the control", bench.read(CONTROL[side]), 0xD2);
            bench.read(DATA[side]);
            bench.duePort("not by reading the DIRECTION", side, CONTROLS, 0xD2);
            bench.write(CONTROL[side], 0x16).write(DATA[side], 0);
            bench.duePort("not by writing OUTPUT", side, CONTROLS, 0xD6);
            bench.read(DATA[1 - side]);
            bench.duePort("not by the other side", side, CONTROLS, 0xD6);
            bench.read(DATA[side]);
            bench.duePort("by reading OUTPUT", side, CONTROLS, 0x16);
        }
    }

    private static void line1SetsBit7() {
        Sentence.is("Line 1 set from 0 to 1 (control bit 1 set) or from 1 to 0 (not set): bit 7 of the control is set.");
        for (int side = 0; side <= 1; side++) {
            for (int control = 0; control < 64; control++) {
                edges(side, 1, control, 0x80, (control & 2) != 0);
            }
        }
    }

    private static void line2SetsBit6WhileBit5IsNotSet() {
        Sentence.is("Line 2, while bit 5 is not set, the same way by bit 4: bit 6.");
        for (int side = 0; side <= 1; side++) {
            for (int control = 0; control < 32; control++) {
                edges(side, 2, control, 0x40, (control & 16) != 0);
            }
        }
    }

    /** From each level to each: an edge is seen if it is the one asked for, and no edge is none. */
    private static void edges(int side, int line, int control, int bit, boolean rising) {
        for (int from = 0; from <= 1; from++) {
            for (int to = 0; to <= 1; to++) {
                Bench bench = new Bench();
                if (from == 1) {
                    bench.kit.line(side, line, true);
                }
                bench.write(CONTROL[side], control);
                Due.yes("line", bench.kit.line(side, line, to == 1));
                boolean seen = from != to && (to == 1) == rising;
                String what = "line " + line + " from " + from + " to " + to + ", control " + control;
                bench.duePort(what, side, CONTROLS, control | (seen ? bit : 0));
                bench.duePort(what, side, line == 1 ? LINE_1 : LINE_2, to);
                bench.duePort(what, 1 - side, CONTROLS, 0);
                bench.kit.line(side, line, !rising);
                bench.kit.line(side, line, rising);
                bench.duePort("seen once more, it stays set", side, CONTROLS, control | bit);
            }
        }
    }

    private static void line2IsBit3() {
        Sentence.is("While bit 5 is set line 2 is an output, and is told by the chip: if bit 4 is set, too, it is bit 3.");
        for (int side = 0; side <= 1; side++) {
            for (int control = 0x30; control < 0x40; control++) {
                int level = control >> 3 & 1;
                Bench bench = new Bench();
                bench.kit.line(side, 2, level == 0);
                bench.write(CONTROL[side], control);
                bench.duePort("control " + control, side, LINE_2, level);
                access(bench, side, true);
                access(bench, side, false);
                bench.kit.line(side, 1, true);
                bench.kit.line(side, 1, false);
                bench.kit.run(3);
                bench.duePort("nothing else tells it, control " + control, side, LINE_2, level);
            }
        }
    }

    private static void readingOrWritingMakesIt0() {
        Sentence.is("If not: on side 0 reading, on side 1 writing the OUTPUT makes it 0");
        for (int side = 0; side <= 1; side++) {
            Bench bench = withControl(side, 0x24);
            access(bench, side, side != 0);
            bench.duePort("the other access does not", side, LINE_2, 1);
            bench.read(CONTROL[side]);
            bench.duePort("nor reading the control", side, LINE_2, 1);
            access(bench, 1 - side, true);
            access(bench, 1 - side, false);
            bench.duePort("nor the other side", side, LINE_2, 1);
            strobe(bench, side);
            bench.duePort("this does", side, LINE_2, 0);
            strobe(bench, side);
            bench.duePort("again", side, LINE_2, 0);
            Bench direction = withControl(side, 0x20);
            access(direction, side, true);
            access(direction, side, false);
            direction.duePort("the DIRECTION does not", side, LINE_2, 1);
            Bench input = withControl(side, 0x04);
            input.kit.line(side, 2, true);
            strobe(input, side);
            input.duePort("not while it is an input", side, LINE_2, 1);
        }
    }

    private static void oneAgainWhenBit7IsSetByLine1() {
        Sentence.is("if bit 3 is not set it is 1 again when bit 7 is set by line 1");
        for (int side = 0; side <= 1; side++) {
            for (int control = 0x24; control <= 0x27; control++) {
                oneAgainUnder(side, control, (control & 2) != 0);
            }
        }
    }

    private static void oneAgainUnder(int side, int control, boolean rising) {
        Bench bench = new Bench();
        bench.kit.line(side, 1, !rising);
        bench.write(CONTROL[side], control);
        strobe(bench, side);
        bench.kit.run(3000);
        bench.duePort("0 for long", side, LINE_2, 0);
        bench.kit.line(side, 1, !rising);
        bench.duePort("0 without an edge", side, LINE_2, 0);
        bench.kit.line(side, 1, rising);
        bench.duePort("1 by the edge", side, LINE_2, 1);
        strobe(bench, side);
        bench.kit.line(side, 1, !rising);
        bench.duePort("0 by the other edge", side, LINE_2, 0);
    }

    private static void oneAgainAtTheEndOfTheStep() {
        Sentence.is("if it is, at the end of the step (whenever bits 5 and 3 are set then, and 4 is not)");
        for (int side = 0; side <= 1; side++) {
            for (int control = 0x2C; control <= 0x2F; control++) {
                Bench bench = withControl(side, control);
                strobe(bench, side);
                bench.duePort("1 after the step", side, LINE_2, 1);
                bench.kit.line(side, 1, true);
                bench.kit.line(side, 1, false);
                bench.duePort("line 1 is not asked", side, LINE_2, 1);
            }
        }
        // STX 8194: OUTPUT makes line 2 0, then the control is another one before the step ends.
        int[][] rows = {{0x04, 0}, {0x0C, 0}, {0x34, 0}, {0x3C, 1}, {0x24, 1}, {0x2C, 1}};
        for (int[] row : rows) {
            Bench bench = withControl(1, 0x2C).code(CODE, 0xFF, 0x20, 0x02).start(Bench.I, 0, 0, 0x5500 + row[0], CODE);
            bench.kit.run(1);
            bench.duePort("then control " + row[0], 1, LINE_2, row[1]);
        }
        // An illegal byte read out of OUTPUT: the step in which it stops ends, too.
        Bench stops = withControl(0, 0x2C).start(Bench.I, 0, 0, 0, 8192);
        Due.same("run", stops.kit.run(5), 1);
        stops.due("stopped", Bench.STOPPED, 1);
        stops.duePort("1 after the step that stops", 0, LINE_2, 1);
    }

    private static void whenTheControlIsWrittenItIs1() {
        Sentence.is("(When the control is written so that it is an output of this kind, it is 1.)");
        for (int side = 0; side <= 1; side++) {
            for (int before = 0; before < 64; before += 4) {
                for (int control = 0x20; control < 0x30; control++) {
                    Bench bench = new Bench().write(CONTROL[side], before).write(CONTROL[side], control);
                    bench.duePort("control " + control + " after " + before, side, LINE_2, 1);
                }
            }
            Bench again = withControl(side, 0x24);
            strobe(again, side);
            again.duePort("0", side, LINE_2, 0);
            again.write(CONTROL[side], 0x24);
            again.duePort("written the same", side, LINE_2, 1);
            for (int control = 0; control < 0x20; control++) {
                Bench input = withControl(side, control);
                input.duePort("an input is not made 1", side, LINE_2, 0);
            }
        }
    }

    private static boolean isTaken(Bench bench) {
        bench.code(CODE, 0x01).start(0, 1, 2, 3, CODE);
        bench.kit.run(1);
        return bench.get(Bench.P) == Bench.IRQ_CODE;
    }

    private static void asksForAnInterrupt() {
        Sentence.is("It asks for an interrupt while on some side bits 7 and 0, or bits 6 and 3 and not 5, are set.");
        for (int side = 0; side <= 1; side++) {
            for (int seen = 0; seen < 4; seen++) {
                for (int control = 0; control < 64; control++) {
                    Bench bench = withControl(side, 0x12);
                    bench.kit.line(side, 1, seen % 2 == 1);
                    bench.kit.line(side, 2, seen >= 2);
                    bench.write(CONTROL[side], control);
                    boolean first = seen % 2 == 1 && (control & 1) != 0;
                    boolean second = seen >= 2 && (control & 8) != 0 && (control & 32) == 0;
                    String what = "side " + side + ", seen " + seen + ", control " + control;
                    Due.same(what, isTaken(bench) ? 1 : 0, first || second ? 1 : 0);
                }
            }
            Bench read = withControl(side, 0x07);
            read.kit.line(side, 1, true);
            read.read(DATA[side]);
            Due.no("no more when OUTPUT was read", isTaken(read));
        }
    }

    private static void pinsTheLowest8Bits() {
        Sentence.is("A side's input pins are the lowest 8 bits of v: true");
        int[][] rows = {{0, 0}, {255, 255}, {256, 0}, {511, 255}, {-1, 255}, {-256, 0}, {Integer.MAX_VALUE, 255},
            {Integer.MIN_VALUE, 0}};
        for (int side = 0; side <= 1; side++) {
            for (int[] row : rows) {
                Bench bench = new Bench();
                bench.kit.pins(side, ~row[0]);
                Due.yes("pins(" + side + ", " + row[0] + ")", bench.kit.pins(side, row[0]));
                bench.duePort("pins(" + row[0] + ")", side, PINS, row[1]);
                bench.duePort("the other side", 1 - side, PINS, 0);
                bench.write(CONTROL[side], 4);
                Due.same("read by a program", bench.read(DATA[side]), row[1]);
            }
        }
    }

    private static void pinsFalseIfNoSuchSide() {
        Sentence.is("false if there is no such side.");
        for (int side : NO_SIDES) {
            Bench bench = new Bench();
            Due.no("pins(" + side + ", 255)", bench.kit.pins(side, 255));
            bench.duePort("nothing happens", 0, PINS, 0);
            bench.duePort("nothing happens", 1, PINS, 0);
        }
    }

    private static void lineSetFromOutside() {
        Sentence.is("Line 1 or 2 of a side is set to 1 or 0 from outside: true");
        for (int side = 0; side <= 1; side++) {
            for (int line = 1; line <= 2; line++) {
                Bench bench = new Bench();
                int what = line == 1 ? LINE_1 : LINE_2;
                int[] levels = {0, 1, 1, 0, 0};
                for (int level : levels) {
                    Due.yes("line", bench.kit.line(side, line, level == 1));
                    bench.duePort("set", side, what, level);
                    bench.duePort("the other line", side, LINE_1 + LINE_2 - what, 0);
                    bench.duePort("the other side", 1 - side, what, 0);
                }
            }
            // Line 1 is never an output.
            for (int control = 0; control < 64; control++) {
                Due.yes("line 1, control " + control, withControl(side, control).kit.line(side, 1, true));
            }
        }
    }

    private static void lineFalseIfNoSuchSideOrLine() {
        Sentence.is("false if there is no such side or line");
        int[] noLines = {-1, -2, 0, 3, 4, 257, 258, Integer.MAX_VALUE, Integer.MIN_VALUE};
        for (int side : NO_SIDES) {
            for (int line = 1; line <= 2; line++) {
                Bench bench = new Bench();
                Due.no("line(" + side + ", " + line + ")", bench.kit.line(side, line, true));
                nothingHappened(bench);
            }
            for (int line : noLines) {
                Due.no("line(" + side + ", " + line + ")", new Bench().kit.line(side, line, true));
            }
        }
        for (int line : noLines) {
            for (int side = 0; side <= 1; side++) {
                Bench bench = new Bench();
                Due.no("line(" + side + ", " + line + ")", bench.kit.line(side, line, true));
                Due.no("line(" + side + ", " + line + ")", bench.kit.line(side, line, false));
                nothingHappened(bench);
            }
        }
    }

    private static void nothingHappened(Bench bench) {
        for (int side = 0; side <= 1; side++) {
            for (int what = 0; what <= 5; what++) {
                bench.duePort("nothing happens", side, what, 0);
            }
        }
    }

    private static void lineFalseIfItIsAnOutput() {
        Sentence.is("or it is an output");
        for (int side = 0; side <= 1; side++) {
            for (int control = 0; control < 64; control++) {
                for (int level = 0; level <= 1; level++) {
                    Bench bench = withControl(side, control);
                    boolean output = control >= 32;
                    int before = bench.kit.port(side, LINE_2);
                    Due.same("line 2, control " + control, bench.kit.line(side, 2, level == 1) ? 1 : 0, output ? 0 : 1);
                    bench.duePort("control " + control, side, LINE_2, output ? before : level);
                    if (output) {
                        bench.duePort("bit 6 is not set", side, CONTROLS, control);
                    }
                }
            }
            // What was refused is not made up for when it is an input again.
            Bench later = withControl(side, 0x38);
            Due.no("line 2", later.kit.line(side, 2, false));
            later.write(CONTROL[side], 0x00);
            later.duePort("nothing seen", side, CONTROLS, 0);
            Due.yes("line 2", later.kit.line(side, 2, false));
            later.duePort("seen now", side, CONTROLS, 0x40);
        }
    }

    private static void portOutputBitsThatAreOut() {
        Sentence.is("Of a side, what 0: the OUTPUT (bits that are out, others 0)");
        int[][] rows = {{0x00, 0xFF, 0x00}, {0xFF, 0xFF, 0xFF}, {0xFF, 0x00, 0x00}, {0x0F, 0xA5, 0x05}, {0x80, 0xFF, 0x80}};
        for (int side = 0; side <= 1; side++) {
            for (int[] row : rows) {
                Bench bench = new Bench().write(DATA[side], row[0]).write(CONTROL[side], 4).write(DATA[side], row[1]);
                bench.kit.pins(side, 0xFF);
                bench.duePort("direction " + row[0] + ", output " + row[1], side, OUT, row[2]);
                bench.write(CONTROL[side], 0).write(DATA[side], 0xFF);
                bench.duePort("the others were kept", side, OUT, row[1]);
            }
        }
    }

    private static void portNoneForNoSuchSideOrAnotherWhat() {
        Sentence.is("NONE for no such side, or another what.");
        int[] others = {-1, -2, 6, 7, 256, Integer.MAX_VALUE, Integer.MIN_VALUE};
        Bench bench = new Bench();
        for (int side : NO_SIDES) {
            for (int what = -1; what <= 6; what++) {
                bench.duePort("no such side", side, what, NONE);
            }
        }
        for (int what : others) {
            bench.duePort("another what", 0, what, NONE);
            bench.duePort("another what", 1, what, NONE);
        }
        // To be asked changes nothing.
        Bench asked = withControl(0, 0x26);
        asked.kit.line(0, 1, true);
        asked.kit.port(0, OUT);
        asked.duePort("bit 7 stays", 0, CONTROLS, 0xA6);
        asked.duePort("line 2 stays", 0, LINE_2, 1);
    }
}
