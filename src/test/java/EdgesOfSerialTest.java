/** THE SERIAL CHIP, receive, sent, sentByte and serial at their ends: each test is named after its sentence. */
public final class EdgesOfSerialTest {
    private static final int CODE = 0xFD00;
    private static final int CONTROL = 8448;
    private static final int DATA = 8449;
    private static final int FULL = 1;
    private static final int EMPTY = 2;
    private static final int OVERRUN = 32;
    private static final int ASKS = 128;
    private static final int NONE = KitMachine.NONE;
    private static final int[] STEPS = {1, 16, 64};

    public static void main(String[] args) {
        howLongAByteTakes();
        resetAsksForNothingWhileSo();
        asksWhileEmpty();
        asksWhileFullOrOverrun();
        emptyAlwaysButWhileAByteWaits();
        zeroBeforeTheFirst();
        notFullNorOverrunAnyMore();
        inPlaceOfOneThatWaits();
        whileResetAByteWrittenIsLost();
        fullThenOverrunAndTheByteIsLost();
        theFirstOfTheLineIsOnItsWay();
        sentInTheEndARowOfAtMost256();
        whileResetNothingOfThisHappens();
        itIsResetAtFirst();
        receiveTheLowest8Bits();
        receiveFalseIfThereAre64();
        sent256AtMost();
        sentByteFrom0On();
        sentByteNone();
        serialZeroWithoutOne();
        serialNoneForAnotherWhat();
        Due.end();
    }

    private static Bench withControl(int control) {
        return new Bench().write(CONTROL, control);
    }

    /** A chip that is FULL with a 1 and OVERRUN by a 2. */
    private static Bench overrun(int control) {
        Bench bench = withControl(control);
        bench.kit.receive(1);
        bench.kit.receive(2);
        bench.kit.run(4);
        return bench;
    }

    /** Has a program lay every byte received from 100h on, X telling how many. */
    private static Bench laying(int control) {
        Bench bench = withControl(control);
        // LDAA 8448; LSRA; BCC back; LDAA 8449; STAA 0,X; INX; BRA back
        bench.code(CODE, 0xB6, 0x21, 0x00, 0x44, 0x24, 0xFA, 0xB6, 0x21, 0x01, 0xA7, 0x00, 0x08, 0x20, 0xF2);
        return bench.start(Bench.I, 0, 0, 0x100, CODE);
    }

    /** Has a program write 1, 2, 3 .. to be sent, one in each three steps, the first in the second step. */
    private static Bench sending(int control) {
        Bench bench = withControl(control);
        // INCA; STAA 8449; BRA back
        return bench.code(CODE, 0x4C, 0xB7, 0x21, 0x01, 0x20, 0xFA).start(Bench.I, 0, 0, 0, CODE);
    }

    private static void howLongAByteTakes() {
        Sentence.is("bits 0, 1: how long a byte takes: 0: 1 step, 1: 16, 2: 64");
        for (int control = 0; control < 256; control++) {
            int mode = control % 4;
            if (mode == 3) {
                continue;
            }
            Bench bench = withControl(control).write(DATA, 9);
            bench.kit.receive(7);
            bench.kit.run(1);
            bench.dueSerial("in, control " + control, 3, STEPS[mode]);
            bench.dueSerial("out, control " + control, 4, STEPS[mode]);
            bench.kit.run(STEPS[mode] - 1);
            bench.dueSerial("one to go", 3, 1);
            bench.dueSerial("not yet come", 1, 0);
            Due.same("not yet sent", bench.kit.sent(), 0);
            bench.kit.run(1);
            bench.dueSerial("come", 1, 7);
            Due.same("sent", bench.kit.sent(), 1);
        }
    }

    private static void resetAsksForNothingWhileSo() {
        Sentence.is("3: it is reset: nothing received, nothing sending, no faults, and asks for nothing while so");
        int[] resets = {0x03, 0x23, 0x83, 0xA3, 0xFF};
        for (int control : resets) {
            Bench bench = overrun(0xA1);
            bench.kit.run(40);
            bench.kit.receive(3);
            bench.write(DATA, 4);
            bench.kit.run(2);
            bench.write(DATA, 5);
            bench.dueSerial("FULL, OVERRUN, not EMPTY", 0, FULL | OVERRUN | ASKS);
            Due.yes("one on its way in", bench.kit.serial(3) > 0);
            Due.yes("one on its way out", bench.kit.serial(4) > 0);
            bench.write(CONTROL, control);
            bench.dueSerial("reset by " + control, 0, EMPTY);
            bench.dueSerial("none on its way in", 3, 0);
            bench.dueSerial("none on its way out", 4, 0);
            bench.write(CONTROL, 0);
            bench.kit.run(100);
            bench.dueSerial("nothing comes of what there was", 0, EMPTY);
            Due.same("nothing is sent of it", bench.kit.sent(), 0);
        }
    }

    private static void asksWhileEmpty() {
        Sentence.is("if bit 5 is 1 and bit 6 is 0, it asks for an interrupt while it is EMPTY");
        int[][] rows = {{0x00, 0}, {0x20, ASKS}, {0x40, 0}, {0x60, 0}, {0x23, 0}, {0x22, ASKS}, {0x3E, ASKS}, {0xA0, ASKS},
            {0xE0, 0}};
        for (int[] row : rows) {
            Bench bench = withControl(row[0]);
            bench.dueSerial("EMPTY, control " + row[0], 0, EMPTY | row[1]);
            if (row[0] == 0x23) {
                continue;
            }
            bench.write(DATA, 1);
            bench.dueSerial("not EMPTY, control " + row[0], 0, 0);
            bench.kit.run(1);
            bench.dueSerial("EMPTY again, control " + row[0], 0, EMPTY | row[1]);
        }
    }

    private static void asksWhileFullOrOverrun() {
        Sentence.is("bit 7: while it is FULL or has overrun");
        Bench bench = withControl(0x80);
        bench.dueSerial("not FULL", 0, EMPTY);
        bench.kit.receive(1);
        bench.kit.receive(2);
        bench.kit.run(1);
        bench.dueSerial("on its way", 0, EMPTY);
        bench.kit.run(1);
        bench.dueSerial("FULL", 0, EMPTY | FULL | ASKS);
        bench.kit.run(2);
        bench.dueSerial("OVERRUN", 0, EMPTY | FULL | OVERRUN | ASKS);
        bench.write(CONTROL, 0x00);
        bench.dueSerial("bit 7 clear", 0, EMPTY | FULL | OVERRUN);
        bench.write(CONTROL, 0xC0);
        bench.dueSerial("bit 7 set", 0, EMPTY | FULL | OVERRUN | ASKS);
        bench.read(DATA);
        bench.dueSerial("read", 0, EMPTY);
    }

    private static void emptyAlwaysButWhileAByteWaits() {
        Sentence.is("2 if EMPTY (always, but while a byte waits to be sent)");
        new Bench().dueSerial("at first", 0, EMPTY);
        Bench bench = withControl(1);
        bench.dueSerial("nothing written", 0, EMPTY);
        bench.write(DATA, 0);
        bench.dueSerial("a 0 waits", 0, 0);
        bench.kit.run(1);
        bench.dueSerial("on its way, none waits", 0, EMPTY);
        bench.write(DATA, 1);
        bench.dueSerial("one on its way, one waits", 0, 0);
        bench.kit.run(13);
        Due.same("the first is sent", bench.kit.sent(), 1);
        bench.dueSerial("the other waits still", 0, 0);
        bench.kit.run(1);
        bench.dueSerial("on its way", 0, EMPTY);
        bench.kit.run(100);
        bench.dueSerial("all sent", 0, EMPTY);
    }

    private static void zeroBeforeTheFirst() {
        Sentence.is("Reading 8449: the byte received last (0 before the first; a reset leaves it)");
        Bench bench = new Bench();
        Due.same("before the first, reset", bench.read(DATA), 0);
        bench.write(CONTROL, 0);
        Due.same("before the first", bench.read(DATA), 0);
        bench.kit.receive(0xFF);
        Due.same("the first", bench.read(DATA), 0xFF);
        bench.write(CONTROL, 3);
        bench.dueSerial("after a reset", 1, 0xFF);
        Due.same("after a reset", bench.read(DATA), 0xFF);
        bench.write(CONTROL, 0);
        Due.same("after it", bench.read(DATA), 0xFF);
        bench.kit.receive(0);
        Due.same("the next one", bench.read(DATA), 0);
    }

    private static void notFullNorOverrunAnyMore() {
        Sentence.is("it is not FULL, nor OVERRUN, any more");
        Bench bench = overrun(0);
        bench.dueSerial("before", 0, EMPTY | FULL | OVERRUN);
        Due.same("reading 8448", bench.read(CONTROL), EMPTY | FULL | OVERRUN);
        bench.dueSerial("leaves it", 0, EMPTY | FULL | OVERRUN);
        Due.same("reading 8449", bench.read(DATA), 1);
        bench.dueSerial("after", 0, EMPTY);
        Due.same("read again", bench.read(DATA), 1);
        bench.kit.receive(3);
        bench.kit.run(2);
        bench.dueSerial("FULL again, not OVERRUN", 0, EMPTY | FULL);
        bench.dueSerial("with the new one", 1, 3);
    }

    private static void inPlaceOfOneThatWaits() {
        Sentence.is("Writing 8449: the byte waits to be sent (in place of one that waits), it is not EMPTY.");
        // The first goes on its way, the second waits and is replaced.
        Bench bench = withControl(1).write(DATA, 1).write(DATA, 2).write(DATA, 3).write(DATA, 4);
        bench.dueSerial("not EMPTY", 0, 0);
        bench.kit.run(100);
        Due.same("two are sent", bench.kit.sent(), 2);
        Due.same("the first", bench.kit.sentByte(0), 1);
        Due.same("the last in place of those before", bench.kit.sentByte(1), 4);
        // STAA 8449; STAB 8449; BRA on the spot: a byte each step, none of which is replaced
        Bench two = withControl(2).code(CODE, 0xB7, 0x21, 0x01, 0xF7, 0x21, 0x01, 0x20, 0xFE);
        two.start(Bench.I, 0, 255, 0, CODE);
        two.kit.run(1);
        two.dueSerial("a 0 waits", 0, 0);
        two.kit.run(1);
        two.dueSerial("the 0 is on its way, 255 waits", 0, 0);
        two.dueSerial("on its way", 4, 64);
        two.kit.run(64 + 65);
        Due.same("both are sent", two.kit.sent(), 2);
        Due.same("the 0", two.kit.sentByte(0), 0);
        Due.same("the 255", two.kit.sentByte(1), 255);
    }

    private static void whileResetAByteWrittenIsLost() {
        Sentence.is("(While it is reset, a byte written is lost.)");
        int[] resets = {0x03, 0xFF};
        for (int control : resets) {
            Bench bench = withControl(0).write(CONTROL, control).write(DATA, 1);
            bench.dueSerial("EMPTY still", 0, EMPTY);
            bench.kit.run(10);
            bench.write(CONTROL, 0);
            bench.kit.run(10);
            Due.same("never sent", bench.kit.sent(), 0);
            bench.write(DATA, 2);
            bench.kit.run(2);
            Due.same("the next one is", bench.kit.sent(), 1);
            Due.same("it", bench.kit.sentByte(0), 2);
        }
        Bench first = new Bench().write(DATA, 1);
        first.dueSerial("EMPTY still, at first", 0, EMPTY);
        first.write(CONTROL, 0);
        first.kit.run(10);
        Due.same("never sent", first.kit.sent(), 0);
    }

    private static void fullThenOverrunAndTheByteIsLost() {
        Sentence.is("if a byte is on its way in, it is so one step less; when it has come:"
            + " if it is FULL it is OVERRUN, and the byte is lost; else it is FULL with it.");
        for (int mode = 0; mode < 3; mode++) {
            Bench bench = withControl(mode);
            bench.kit.receive(0x11);
            bench.kit.receive(0x22);
            bench.kit.receive(0x33);
            bench.kit.run(STEPS[mode] + 1);
            bench.dueSerial("FULL", 0, EMPTY | FULL);
            bench.kit.run(STEPS[mode]);
            bench.dueSerial("one step to go", 0, EMPTY | FULL);
            bench.dueSerial("one step to go", 3, 1);
            bench.kit.run(1);
            bench.dueSerial("OVERRUN", 0, EMPTY | FULL | OVERRUN);
            bench.dueSerial("with the first", 1, 0x11);
            bench.kit.run(STEPS[mode] + 1);
            bench.dueSerial("still so", 0, EMPTY | FULL | OVERRUN);
            bench.dueSerial("with the first", 1, 0x11);
            bench.dueSerial("the LINE is empty", 2, 0);
            Due.same("read", bench.read(DATA), 0x11);
            bench.kit.run(100);
            bench.dueSerial("those are lost", 0, EMPTY);
            bench.dueSerial("those are lost", 1, 0x11);
        }
    }

    private static void theFirstOfTheLineIsOnItsWay() {
        Sentence.is("Else, if the LINE has bytes (at most 64), the first one is on its way,"
            + " for as many steps as the control says then.");
        Bench empty = withControl(1);
        empty.kit.run(3000);
        empty.dueSerial("none on the LINE, none on its way", 3, 0);
        empty.dueSerial("nothing received", 0, EMPTY);
        empty.kit.receive(5);
        empty.kit.run(1);
        empty.dueSerial("the only one is on its way", 3, 16);
        empty.dueSerial("and not on the LINE", 2, 0);
        Bench full = laying(1);
        for (int round = 0; round < 2; round++) {
            for (int i = 0; i < 64; i++) {
                full.kit.receive(64 * round + i);
            }
            full.kit.run(17 * 64 + 20);
        }
        full.due("all of two full LINEs", Bench.X, 0x100 + 128);
        for (int i = 0; i < 128; i++) {
            full.dueByte("in their order", 0x100 + i, i);
        }
        // The time is told when it goes on its way, and not changed by the control then.
        Bench then = withControl(2);
        then.kit.receive(1);
        then.kit.receive(2);
        then.kit.run(1);
        then.write(CONTROL, 0);
        then.dueSerial("as it was told", 3, 61);
        then.kit.run(62);
        then.dueSerial("as it is told now", 3, 1);
    }

    private static void sentInTheEndARowOfAtMost256() {
        Sentence.is("a byte on its way out is so one step less, and is SENT in the end"
            + " (a row of at most 256, more are lost); else, if one waits, it is on its way, EMPTY again.");
        Bench bench = sending(0);
        bench.kit.run(3 * 255 + 3);
        Due.same("255", bench.kit.sent(), 255);
        Due.same("the last of 255", bench.kit.sentByte(254), 255);
        Due.same("none behind it", bench.kit.sentByte(255), NONE);
        bench.kit.run(3);
        Due.same("256", bench.kit.sent(), 256);
        Due.same("the last of 256", bench.kit.sentByte(255), 0);
        bench.kit.run(3);
        Due.same("the next one is lost", bench.kit.sent(), 256);
        Due.same("the first stays", bench.kit.sentByte(0), 1);
        Due.same("the last stays", bench.kit.sentByte(255), 0);
        Due.same("none behind it", bench.kit.sentByte(256), NONE);
        bench.kit.run(3000);
        Due.same("all are lost", bench.kit.sent(), 256);
        for (int i = 0; i < 256; i++) {
            Due.same("sentByte(" + i + ")", bench.kit.sentByte(i), i + 1 & 255);
        }
        bench.write(CONTROL, 3).write(CONTROL, 1).write(DATA, 1);
        bench.dueSerial("one more waits", 0, 0);
        bench.kit.run(1);
        bench.dueSerial("EMPTY again", 0, EMPTY);
        bench.dueSerial("it takes its time all the same", 4, 16);
        bench.kit.run(16);
        bench.dueSerial("and is gone", 4, 0);
        Due.same("lost", bench.kit.sent(), 256);
    }

    private static void whileResetNothingOfThisHappens() {
        Sentence.is("While it is reset nothing of this happens.");
        Bench bench = withControl(0).write(CONTROL, 3);
        bench.kit.receive(1);
        bench.kit.receive(2);
        bench.kit.run(3000);
        bench.dueSerial("both on the LINE", 2, 2);
        bench.dueSerial("none on its way in", 3, 0);
        bench.dueSerial("none on its way out", 4, 0);
        bench.dueSerial("nothing received", 1, 0);
        bench.write(CONTROL, 1);
        bench.dueSerial("not by writing alone", 2, 2);
        bench.kit.run(1);
        bench.dueSerial("then it goes on", 2, 1);
        bench.dueSerial("on its way", 3, 16);
    }

    private static void itIsResetAtFirst() {
        Sentence.is("(It is reset at first.)");
        Bench bench = new Bench();
        for (int i = 0; i < 64; i++) {
            bench.kit.receive(i);
        }
        bench.code(0, 0x20, 0xFE);
        bench.kit.run(3000);
        bench.dueSerial("all on the LINE", 2, 64);
        bench.dueSerial("EMPTY, asks for nothing", 0, EMPTY);
        bench.dueSerial("none on its way", 3, 0);
    }

    private static void receiveTheLowest8Bits() {
        Sentence.is("A byte, the lowest 8 bits of b, comes to the LINE: true");
        int[][] rows = {{0, 0}, {255, 255}, {256, 0}, {511, 255}, {-1, 255}, {-256, 0}, {-128, 128},
            {Integer.MAX_VALUE, 255}, {Integer.MIN_VALUE, 0}};
        for (int[] row : rows) {
            Bench bench = withControl(0);
            Due.yes("receive(" + row[0] + ")", bench.kit.receive(row[0]));
            bench.dueSerial("on the LINE", 2, 1);
            bench.kit.run(2);
            bench.dueSerial("receive(" + row[0] + ")", 1, row[1]);
        }
    }

    private static void receiveFalseIfThereAre64() {
        Sentence.is("false if there are 64");
        Bench bench = laying(1);
        for (int i = 0; i < 63; i++) {
            bench.kit.receive(i + 1);
        }
        bench.dueSerial("63", 2, 63);
        Due.yes("the 64th", bench.kit.receive(64));
        Due.no("the 65th", bench.kit.receive(65));
        bench.dueSerial("64", 2, 64);
        bench.kit.run(1);
        bench.dueSerial("the first on its way", 2, 63);
        Due.yes("room for one", bench.kit.receive(66));
        Due.no("for no other", bench.kit.receive(67));
        bench.kit.run(17 * 65 + 20);
        bench.due("65 came", Bench.X, 0x100 + 65);
        for (int i = 0; i < 64; i++) {
            bench.dueByte("in their order", 0x100 + i, i + 1);
        }
        bench.dueByte("not those refused", 0x100 + 64, 66);
    }

    private static void sent256AtMost() {
        Sentence.is("How many bytes were SENT so far (256 at most).");
        Due.same("none", new Bench().kit.sent(), 0);
        Bench bench = sending(0);
        bench.kit.run(3);
        Due.same("one on its way", bench.kit.sent(), 0);
        bench.kit.run(1);
        Due.same("one", bench.kit.sent(), 1);
        bench.kit.run(2999);
        Due.same("256 at most", bench.kit.sent(), 256);
        bench.write(CONTROL, 3);
        Due.same("a reset of the chip leaves them", bench.kit.sent(), 256);
        bench.kit.reset();
        Due.same("a RESET leaves them", bench.kit.sent(), 256);
    }

    private static void sentByteFrom0On() {
        Sentence.is("The i-th byte that was SENT, from 0 on");
        Bench bench = withControl(0).write(DATA, 0xFF).write(DATA, 0).write(DATA, 0x80);
        bench.kit.run(2);
        Due.same("0", bench.kit.sentByte(0), 255);
        Due.same("1", bench.kit.sentByte(1), 0);
        Due.same("2", bench.kit.sentByte(2), 128);
        bench.write(CONTROL, 3);
        Due.same("after a reset of the chip", bench.kit.sentByte(2), 128);
    }

    private static void sentByteNone() {
        Sentence.is("NONE if there is none.");
        int[] never = {-1, -2, 256, 257, Integer.MAX_VALUE, Integer.MIN_VALUE};
        Bench none = new Bench();
        Due.same("sentByte(0), none sent", none.kit.sentByte(0), NONE);
        Bench some = withControl(0).write(DATA, 9).write(DATA, 8);
        some.kit.run(2);
        Due.same("sentByte(1), two sent", some.kit.sentByte(1), 8);
        Due.same("sentByte(2), two sent", some.kit.sentByte(2), NONE);
        Due.same("sentByte(255), two sent", some.kit.sentByte(255), NONE);
        Bench all = sending(0);
        all.kit.run(3000);
        for (int i : never) {
            Due.same("sentByte(" + i + "), none sent", none.kit.sentByte(i), NONE);
            Due.same("sentByte(" + i + "), two sent", some.kit.sentByte(i), NONE);
            Due.same("sentByte(" + i + "), 256 sent", all.kit.sentByte(i), NONE);
        }
        // One that waits and one on its way are not SENT.
        Bench early = withControl(1).write(DATA, 9).write(DATA, 8);
        Due.same("on its way", early.kit.sentByte(0), NONE);
    }

    private static void serialZeroWithoutOne() {
        Sentence.is("3: steps until the byte on its way in has come, 0 without one; 4: the same out");
        Bench bench = withControl(1);
        bench.dueSerial("in, without one", 3, 0);
        bench.dueSerial("out, without one", 4, 0);
        bench.kit.receive(1);
        bench.dueSerial("on the LINE is not on its way", 3, 0);
        bench.write(DATA, 1);
        bench.dueSerial("one that waits is not on its way", 4, 0);
        bench.kit.run(1);
        for (int left = 16; left > 0; left--) {
            bench.dueSerial("out", 4, left);
            bench.dueSerial("in, three steps sooner", 3, left > 3 ? left - 3 : 0);
            bench.kit.run(1);
        }
        bench.dueSerial("it has gone", 4, 0);
    }

    private static void serialNoneForAnotherWhat() {
        Sentence.is("4: the same out; NONE for another what.");
        int[] others = {-1, -2, 5, 6, 8448, 8449, Integer.MAX_VALUE, Integer.MIN_VALUE};
        Bench bench = overrun(0);
        for (int what : others) {
            bench.dueSerial("another what", what, NONE);
        }
        bench.dueSerial("the LINE", 2, 0);
        bench.dueSerial("as reading 8448 would tell", 0, EMPTY | FULL | OVERRUN);
        bench.dueSerial("as reading 8449 would tell", 1, 1);
        bench.dueSerial("and nothing is read by it", 0, EMPTY | FULL | OVERRUN);
    }
}
