/** Promises 7, 8, 9 and 13: receive, sent, sentByte and serial, with the chip's own ways. */
public final class SerialChipTest {
    private static final int CONTROL = 8448;
    private static final int DATA = 8449;
    private static final int FULL = 1;
    private static final int EMPTY = 2;
    private static final int OVERRUN = 32;
    private static final int ASKS = 128;
    private static final int[] STEPS = {1, 16, 64};
    /** Steps that Bench.write and Bench.read take. */
    private static final int ACCESS = 3;

    public static void main(String[] args) {
        checkLine();
        checkLineIsARow();
        checkBytesComeIn();
        checkOverrun();
        checkBytesGoOut();
        checkWaitingByteIsReplaced();
        checkSentRow();
        checkSentBytesThatAreNot();
        checkTimeIsThatOfTheStart();
        checkReset();
        checkResetAtFirst();
        checkAsking();
        checkReadingTells();
        checkWrongWhat();
        Due.end();
    }

    private static void checkLine() {
        Bench bench = new Bench();
        for (int i = 0; i < 64; i++) {
            Due.yes("receive " + i, bench.kit.receive(i));
            bench.dueSerial("on the line", 2, i + 1);
        }
        Due.no("a full line", bench.kit.receive(64));
        bench.dueSerial("still", 2, 64);
        bench.write(CONTROL, 1);
        Due.no("a full line, none on its way", bench.kit.receive(64));
        bench.kit.run(1);
        bench.dueSerial("one is on its way", 2, 63);
        Due.yes("room for one", bench.kit.receive(65));
        Due.no("room for one alone", bench.kit.receive(66));
    }

    private static void checkLineIsARow() {
        // LDAA 8448; LSRA; BCC back; LDAA 8449; STAA 0,X; INX; BRA back: bytes are laid from X on
        Bench bench = new Bench().write(8448, 1);
        bench.code(0xFC00, 0xB6, 0x21, 0x00, 0x44, 0x24, 0xFA, 0xB6, 0x21, 0x01, 0xA7, 0x00, 0x08, 0x20, 0xF2);
        bench.start(Bench.I, 0, 0, 0x100, 0xFC00);
        for (int i = 0; i < 60; i++) {
            bench.kit.receive(0x1F00 + 3 * i);
        }
        bench.kit.run(60 * 17 + 20);
        for (int i = 60; i < 110; i++) {
            bench.kit.receive(-256 + 3 * i);
        }
        bench.kit.run(50 * 17 + 20);
        for (int i = 0; i < 110; i++) {
            bench.dueByte("received " + i, 0x100 + i, 3 * i & 0xFF);
        }
        bench.due("no more", Bench.X, 0x100 + 110);
    }

    private static void checkBytesComeIn() {
        for (int mode = 0; mode < 3; mode++) {
            Bench bench = new Bench().write(CONTROL, mode);
            bench.kit.receive(0x1A5);
            bench.kit.receive(7);
            bench.dueSerial("not yet on its way", 3, 0);
            bench.kit.run(1);
            bench.dueSerial("on its way", 3, STEPS[mode]);
            bench.dueSerial("one left", 2, 1);
            bench.dueSerial("not full", 0, EMPTY);
            bench.kit.run(STEPS[mode] - 1);
            bench.dueSerial("one step to go", 3, 1);
            bench.dueSerial("not full", 0, EMPTY);
            bench.dueSerial("nothing received", 1, 0);
            bench.kit.run(1);
            bench.dueSerial("it has come", 3, 0);
            bench.dueSerial("full", 0, EMPTY | FULL);
            bench.dueSerial("the byte", 1, 0xA5);
            bench.dueSerial("the next one still on the line", 2, 1);
            bench.kit.run(1);
            bench.dueSerial("the next one on its way", 3, STEPS[mode]);
            bench.dueSerial("none left", 2, 0);
        }
    }

    private static void checkOverrun() {
        Bench bench = new Bench().write(CONTROL, 0);
        bench.kit.receive(1);
        bench.kit.receive(2);
        bench.kit.receive(3);
        bench.kit.run(2);
        bench.dueSerial("full", 0, EMPTY | FULL);
        bench.kit.run(2);
        bench.dueSerial("overrun", 0, EMPTY | FULL | OVERRUN);
        bench.dueSerial("the first one stays", 1, 1);
        bench.kit.run(2);
        bench.dueSerial("overrun still", 0, EMPTY | FULL | OVERRUN);
        Due.same("read", bench.read(DATA), 1);
        bench.dueSerial("neither full nor overrun", 0, EMPTY);
        bench.dueSerial("the byte stays", 1, 1);
        Due.same("read again", bench.read(DATA), 1);
        bench.kit.receive(4);
        bench.kit.run(2);
        bench.dueSerial("the next one comes", 1, 4);
        bench.dueSerial("full", 0, EMPTY | FULL);
    }

    private static void checkBytesGoOut() {
        for (int mode = 0; mode < 3; mode++) {
            Bench bench = new Bench().write(CONTROL, mode).write(DATA, 0x5C);
            bench.dueSerial("a byte waits", 0, 0);
            bench.dueSerial("not on its way", 4, 0);
            bench.kit.run(1);
            bench.dueSerial("empty again", 0, EMPTY);
            bench.dueSerial("on its way", 4, STEPS[mode]);
            bench.kit.run(STEPS[mode] - 1);
            bench.dueSerial("one step to go", 4, 1);
            Due.same("sent", bench.kit.sent(), 0);
            Due.same("sentByte(0)", bench.kit.sentByte(0), KitMachine.NONE);
            bench.kit.run(1);
            bench.dueSerial("it has gone", 4, 0);
            Due.same("sent", bench.kit.sent(), 1);
            Due.same("sentByte(0)", bench.kit.sentByte(0), 0x5C);
            Due.same("sentByte(1)", bench.kit.sentByte(1), KitMachine.NONE);
            bench.kit.run(100);
            Due.same("sent once", bench.kit.sent(), 1);
        }
    }

    private static void checkWaitingByteIsReplaced() {
        Bench bench = new Bench().write(CONTROL, 1).write(DATA, 1).write(DATA, 2);
        bench.dueSerial("one on its way, one waits", 0, 0);
        bench.dueSerial("on its way", 4, 16 - ACCESS + 1);
        bench.write(DATA, 3);
        bench.kit.run(16 - 2 * ACCESS + 1);
        Due.same("the first one is sent", bench.kit.sent(), 1);
        bench.dueSerial("the next one still waits", 0, 0);
        bench.dueSerial("none on its way", 4, 0);
        bench.kit.run(1);
        bench.dueSerial("on its way", 4, 16);
        bench.kit.run(16);
        Due.same("two sent", bench.kit.sent(), 2);
        Due.same("the first", bench.kit.sentByte(0), 1);
        Due.same("in place of the second", bench.kit.sentByte(1), 3);
        bench.kit.run(40);
        Due.same("no more", bench.kit.sent(), 2);
    }

    private static void checkSentRow() {
        // INCA; STAA 8449; back: three steps a byte
        Bench bench = new Bench().write(CONTROL, 0);
        bench.code(0xFC00, 0x4C, 0xB7, 0x21, 0x01, 0x20, 0xFA).start(Bench.I, 0, 0, 0, 0xFC00);
        bench.kit.run(3 * 255 + 1);
        Due.same("one to go", bench.kit.sent(), 255);
        bench.kit.run(3);
        Due.same("all", bench.kit.sent(), 256);
        bench.kit.run(300);
        Due.same("more are lost", bench.kit.sent(), 256);
        for (int i = 0; i < 256; i++) {
            Due.same("sentByte(" + i + ")", bench.kit.sentByte(i), i + 1 & 0xFF);
        }
        Due.same("sentByte(256)", bench.kit.sentByte(256), KitMachine.NONE);
        bench.dueSerial("they go out all the same", 4, 0);
    }

    private static void checkSentBytesThatAreNot() {
        Bench bench = new Bench().write(CONTROL, 0).write(DATA, 9);
        bench.kit.run(2);
        int[] wrong = {-1, 1, 2, 255, 256, Integer.MAX_VALUE, Integer.MIN_VALUE};
        for (int i : wrong) {
            Due.same("sentByte(" + i + ")", bench.kit.sentByte(i), KitMachine.NONE);
        }
        Due.same("sentByte(0)", bench.kit.sentByte(0), 9);
    }

    private static void checkTimeIsThatOfTheStart() {
        Bench bench = new Bench().write(CONTROL, 2).write(DATA, 1);
        bench.kit.receive(1);
        bench.kit.receive(2);
        bench.kit.run(1);
        bench.dueSerial("in", 3, 64);
        bench.dueSerial("out", 4, 64);
        bench.write(CONTROL, 0);
        bench.dueSerial("in goes on", 3, 64 - ACCESS);
        bench.dueSerial("out goes on", 4, 64 - ACCESS);
        bench.kit.run(64 - ACCESS);
        bench.dueSerial("come", 1, 1);
        Due.same("sent", bench.kit.sent(), 1);
        bench.kit.run(1);
        bench.dueSerial("the next one as the control says now", 3, 1);
    }

    private static void checkReset() {
        Bench bench = new Bench().write(CONTROL, 1).write(DATA, 1);
        bench.kit.receive(0x77);
        bench.kit.receive(0x78);
        bench.kit.receive(0x79);
        bench.kit.receive(0x7A);
        bench.kit.run(36);
        bench.write(DATA, 2);
        bench.kit.run(1);
        bench.write(DATA, 3);
        bench.dueSerial("full, overrun and busy", 0, FULL | OVERRUN);
        bench.dueSerial("one on its way in", 3, 16 - 36 + 2 * 17 - 2 * ACCESS);
        bench.write(CONTROL, 0xA3);
        bench.dueSerial("nothing, and asks for nothing", 0, EMPTY);
        bench.dueSerial("none on its way in", 3, 0);
        bench.dueSerial("none on its way out", 4, 0);
        bench.dueSerial("the byte stays", 1, 0x77);
        bench.dueSerial("the line stays", 2, 1);
        Due.same("sent stays", bench.kit.sent(), 1);
        bench.kit.run(200);
        bench.dueSerial("no time goes by", 2, 1);
        bench.write(DATA, 4);
        bench.dueSerial("a byte written is lost", 0, EMPTY);
        Due.same("the byte can be read", bench.read(DATA), 0x77);
        bench.write(CONTROL, 0);
        bench.kit.run(2);
        bench.dueSerial("the line goes on", 1, 0x7A);
        bench.kit.run(100);
        Due.same("what waited is gone", bench.kit.sent(), 1);
    }

    private static void checkResetAtFirst() {
        Bench bench = new Bench();
        bench.kit.receive(5);
        bench.write(DATA, 6);
        bench.kit.run(100);
        bench.dueSerial("nothing on its way", 3, 0);
        bench.dueSerial("on the line", 2, 1);
        bench.dueSerial("empty", 0, EMPTY);
        Due.same("sent", bench.kit.sent(), 0);
        bench.write(CONTROL, 0);
        bench.kit.run(100);
        Due.same("what was written is lost", bench.kit.sent(), 0);
        bench.dueSerial("received", 1, 5);
    }

    private static void checkAsking() {
        for (int control = 0; control < 256; control++) {
            Bench bench = new Bench().write(CONTROL, control);
            boolean reset = control % 4 == 3;
            boolean ifEmpty = (control & 0x20) != 0 && (control & 0x40) == 0 && !reset;
            boolean ifFull = control >= 128 && !reset;
            String what = "control " + control;
            bench.dueSerial(what, 0, EMPTY | (ifEmpty ? ASKS : 0));
            bench.kit.receive(1);
            bench.kit.run(65);
            int full = reset ? 0 : FULL;
            bench.dueSerial(what, 0, full | EMPTY | (ifEmpty || ifFull ? ASKS : 0));
            bench.write(DATA, 1);
            bench.dueSerial(what, 0, full | (reset ? EMPTY : 0) | (ifFull ? ASKS : 0));
        }
    }

    private static void checkReadingTells() {
        Bench bench = new Bench().write(CONTROL, 0x80);
        Due.same("8448", bench.read(CONTROL), EMPTY);
        bench.kit.receive(0xEE);
        bench.kit.receive(0xEF);
        bench.kit.run(4);
        Due.same("8448", bench.read(CONTROL), ASKS | OVERRUN | EMPTY | FULL);
        Due.same("8448 changes nothing", bench.read(CONTROL), ASKS | OVERRUN | EMPTY | FULL);
        bench.dueSerial("serial(1) changes nothing", 1, 0xEE);
        bench.dueSerial("as before", 0, ASKS | OVERRUN | EMPTY | FULL);
        Due.same("8449", bench.read(DATA), 0xEE);
        Due.same("8448", bench.read(CONTROL), EMPTY);
    }

    private static void checkWrongWhat() {
        Bench bench = new Bench();
        int[] wrong = {-1, 5, 6, 8448, Integer.MAX_VALUE, Integer.MIN_VALUE};
        for (int what : wrong) {
            bench.dueSerial("no such", what, KitMachine.NONE);
        }
    }
}
