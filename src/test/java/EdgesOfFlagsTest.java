/** The flags at the ends of 4, 8 and 16 bits: each test is named after its sentence, each row worked out by hand. */
public final class EdgesOfFlagsTest {
    private static final int CODE = 0xFD00;
    private static final int C = Bench.C;
    private static final int V = Bench.V;
    private static final int Z = Bench.Z;
    private static final int N = Bench.N;
    private static final int I = Bench.I;
    private static final int H = Bench.H;
    private static final int ALL = 63;

    /** Held, M, the result, the flags: for SUB and its like. */
    private static final int[][] DIFFERENCES = {
        {0x00, 0x00, 0x00, Z}, {0x00, 0x01, 0xFF, N | C}, {0x80, 0x01, 0x7F, V}, {0x80, 0x00, 0x80, N},
        {0x7F, 0xFF, 0x80, N | V | C}, {0x7F, 0x80, 0xFF, N | V | C}, {0x80, 0x7F, 0x01, V}, {0x80, 0x80, 0x00, Z},
        {0x00, 0x80, 0x80, N | V | C}, {0xFF, 0x80, 0x7F, 0}, {0xFF, 0xFF, 0x00, Z}, {0x00, 0xFF, 0x01, C},
        {0x7F, 0x7F, 0x00, Z}, {0xFF, 0x7F, 0x80, N}, {0xFE, 0x7F, 0x7F, V}, {0xFF, 0x00, 0xFF, N}
    };

    /** The same with C taken off, too. */
    private static final int[][] DIFFERENCES_WITH_C = {
        {0x00, 0x00, 0xFF, N | C}, {0x00, 0xFF, 0x00, Z | C}, {0x80, 0x00, 0x7F, V}, {0x7F, 0xFF, 0x7F, C},
        {0x7F, 0xFE, 0x80, N | V | C}, {0xFF, 0x7F, 0x7F, V}, {0x80, 0x80, 0xFF, N | C}, {0x01, 0x00, 0x00, Z},
        {0xFF, 0xFF, 0xFF, N | C}, {0xFF, 0xFE, 0x00, Z}, {0x80, 0x7F, 0x00, Z | V}, {0x81, 0x00, 0x80, N}
    };

    /** Held, M, the result, the flags: for ADD and its like. */
    private static final int[][] SUMS = {
        {0x00, 0x00, 0x00, Z}, {0x7F, 0x00, 0x7F, 0}, {0x7F, 0x01, 0x80, H | N | V}, {0x80, 0x80, 0x00, Z | V | C},
        {0xFF, 0x01, 0x00, H | Z | C}, {0xFF, 0xFF, 0xFE, H | N | C}, {0x80, 0xFF, 0x7F, V | C}, {0x80, 0x7F, 0xFF, N},
        {0x0F, 0x01, 0x10, H}, {0x0F, 0x00, 0x0F, 0}, {0x08, 0x08, 0x10, H}, {0x07, 0x08, 0x0F, 0},
        {0x7F, 0x7F, 0xFE, H | N | V}, {0x40, 0x40, 0x80, N | V}, {0x3F, 0x40, 0x7F, 0}, {0xC0, 0xBF, 0x7F, V | C},
        {0xC0, 0xC0, 0x80, N | C}, {0xF0, 0x10, 0x00, Z | C}, {0xF0, 0x0F, 0xFF, N}, {0x00, 0x80, 0x80, N},
        {0x80, 0x00, 0x80, N}, {0x00, 0x7F, 0x7F, 0}
    };

    /** The same with C, too. */
    private static final int[][] SUMS_WITH_C = {
        {0x00, 0x00, 0x01, 0}, {0x7F, 0x00, 0x80, H | N | V}, {0xFF, 0x00, 0x00, H | Z | C}, {0x0E, 0x00, 0x0F, 0},
        {0x0F, 0x00, 0x10, H}, {0xFF, 0xFF, 0xFF, H | N | C}, {0x80, 0x7F, 0x00, H | Z | C},
        {0x7F, 0x80, 0x00, H | Z | C}, {0x80, 0xFF, 0x80, H | N | C}, {0x80, 0x80, 0x01, V | C},
        {0xFE, 0x00, 0xFF, N}, {0x7E, 0x00, 0x7F, 0}, {0x07, 0x08, 0x10, H}
    };

    public static void main(String[] args) {
        bit7OfThe8Bits();
        bit15OfThe16();
        subtractRunsOver();
        subtractCTakenOffToo();
        logicNz();
        storeNzOfWhatIsWritten();
        addCarriesOutOfBit3();
        betweenAccumulators();
        negateVIfTheResultIs128();
        complementCSet();
        shiftsTheBitThatGoesOut();
        decrementVIfMWas128();
        incrementVIfMWas127();
        testAndClear();
        compareXRunsOver();
        decimalAdjust();
        Due.end();
    }

    private static Bench step(int flags, int a, int b, int x, int... code) {
        Bench bench = new Bench().code(CODE, code).start(flags, a, b, x, CODE);
        bench.kit.run(1);
        return bench;
    }

    /** The two flag bytes with a given C: all others clear, and all set. */
    private static int[] flagsWith(int carry) {
        return new int[] {carry, ALL - C + carry};
    }

    /** An instruction of 80 .. FF on A and on B, for rows of: held, M, the result, the flags that it tells. */
    private static void pair(int digit, int carry, int staying, int[]... rows) {
        for (int[] row : rows) {
            for (int before : flagsWith(carry)) {
                int want = row[3] | before & staying;
                String what = "digit " + digit + " of " + row[0] + " and " + row[1] + ", flags " + before;
                Bench a = step(before, row[0], 0x5A, 0, 0x80 + digit, row[1]);
                a.due(what, Bench.A, row[2]);
                a.due(what, Bench.FLAGS, want);
                Bench b = step(before, 0x5A, row[0], 0, 0xC0 + digit, row[1]);
                b.due(what, Bench.B, row[2]);
                b.due(what, Bench.FLAGS, want);
            }
        }
    }

    /** An instruction of 40 .. 7F on A, on B and in memory, for rows of: M, the result, the flags that it tells. */
    private static void single(int digit, int carry, int staying, int[]... rows) {
        for (int[] row : rows) {
            for (int before : flagsWith(carry)) {
                int want = row[2] | before & staying;
                String what = "digit " + digit + " of " + row[0] + ", flags " + before;
                Bench a = step(before, row[0], 0x5A, 0, 0x40 + digit);
                a.due(what, Bench.A, row[1]);
                a.due(what, Bench.FLAGS, want);
                Bench b = step(before, 0x5A, row[0], 0, 0x50 + digit);
                b.due(what, Bench.B, row[1]);
                b.due(what, Bench.FLAGS, want);
                Bench m = new Bench().code(1023, row[0]).code(CODE, 0x70 + digit, 0x03, 0xFF);
                m.start(before, 1, 2, 3, CODE);
                m.kit.run(1);
                m.dueByte(what, 1023, row[1]);
                m.due(what, Bench.FLAGS, want);
            }
        }
    }

    private static int[] row(int... numbers) {
        return numbers;
    }

    private static void bit7OfThe8Bits() {
        Sentence.is("N is bit 7 of the 8 bits (15 of the 16) of the result, Z is set if it is 0, V is cleared");
        int[][] rows = {{0x33, 0, 0, Z}, {0x33, 1, 1, 0}, {0x33, 0x7F, 0x7F, 0}, {0x33, 0x80, 0x80, N},
            {0x33, 0xFF, 0xFF, N}};
        for (int carry = 0; carry <= 1; carry++) {
            pair(6, carry, C | I | H, rows);
        }
    }

    private static void bit15OfThe16() {
        Sentence.is("8E, 9E, AE, BE S, CE, DE, EE, FE X becomes a word;"
            + " 9F, AF, BF S, DF, EF, FF X is written as a word (higher byte first): NZ.");
        int[][] rows = {{0, Z}, {1, 0}, {0x0080, 0}, {0x00FF, 0}, {0x0100, 0}, {0x7FFF, 0}, {0x8000, N}, {0xFF00, N},
            {0xFFFF, N}};
        for (int[] row : rows) {
            for (int before = 0; before <= ALL; before += ALL) {
                int want = row[1] | before & (C | H | I);
                // LDX #; LDAA # of another sign; STX
                Bench x = step(before, 0, 0, 0x1234, 0xCE, row[0] >> 8, row[0], 0x86, 0x40, 0xFF, 0x02, 0x00);
                x.due("X", Bench.X, row[0]);
                x.due("flags by X", Bench.FLAGS, want);
                x.kit.run(2);
                x.due("flags by X written", Bench.FLAGS, want);
                Bench s = step(before, 0, 0, 0x1234, 0x8E, row[0] >> 8, row[0], 0x86, 0x40, 0xBF, 0x02, 0x00);
                s.due("S", Bench.S, row[0]);
                s.due("flags by S", Bench.FLAGS, want);
                s.kit.run(2);
                s.due("flags by S written", Bench.FLAGS, want);
            }
        }
    }

    private static void subtractRunsOver() {
        Sentence.is("0 SUB, 1 CMP (not kept), 2 SBC (C taken off, too): nz,"
            + " V set if the result with signs runs over, C if it does without signs.");
        for (int carry = 0; carry <= 1; carry++) {
            pair(0, carry, I | H, DIFFERENCES);
            for (int[] row : DIFFERENCES) {
                pair(1, carry, I | H, row(row[0], row[1], row[0], row[3]));
            }
        }
    }

    private static void subtractCTakenOffToo() {
        Sentence.is("2 SBC (C taken off, too)");
        pair(2, 0, I | H, DIFFERENCES);
        pair(2, 1, I | H, DIFFERENCES_WITH_C);
    }

    private static void logicNz() {
        Sentence.is("4 AND, 5 BIT (not kept), 8 EOR, A ORA, 6 LDA: NZ.");
        for (int carry = 0; carry <= 1; carry++) {
            int staying = C | I | H;
            pair(4, carry, staying, row(0xFF, 0x80, 0x80, N), row(0x0F, 0xF0, 0, Z), row(0xFF, 0x7F, 0x7F, 0));
            pair(5, carry, staying, row(0xFF, 0x80, 0xFF, N), row(0x0F, 0xF0, 0x0F, Z), row(0xFF, 0x7F, 0xFF, 0));
            pair(8, carry, staying, row(0xFF, 0x7F, 0x80, N), row(0xFF, 0xFF, 0, Z), row(0xFF, 0x80, 0x7F, 0));
            pair(10, carry, staying, row(0xFF, 0xFF, 0xFF, N), row(0, 0x80, 0x80, N), row(0, 0, 0, Z),
                row(0x0F, 0x7F, 0x7F, 0));
        }
    }

    private static void storeNzOfWhatIsWritten() {
        Sentence.is("7 STA (not immediate): NZ of what is written.");
        int[][] rows = {{0, Z}, {1, 0}, {0x7F, 0}, {0x80, N}, {0xFF, N}};
        for (int[] row : rows) {
            for (int before = 0; before <= ALL; before += ALL) {
                int want = row[1] | before & (C | I | H);
                Bench a = step(before, row[0], 0x5A, 0, 0xB7, 0x03, 0xFF);
                a.dueByte("A written", 1023, row[0]);
                a.due("flags by A", Bench.FLAGS, want);
                // Where it is lost it is told all the same.
                Bench b = step(before, 0x5A, row[0], 0, 0xF7, 0x04, 0x00);
                b.due("flags by B", Bench.FLAGS, want);
            }
        }
        step(I, 0, 0, 0, 0x87, 0x10).due("A, immediate", Bench.STOPPED, 1);
        step(I, 0, 0, 0, 0xC7, 0x10).due("B, immediate", Bench.STOPPED, 1);
    }

    private static void addCarriesOutOfBit3() {
        Sentence.is("9 ADC (with C), B ADD: H is set if it carries out of bit 3, nz, V if it runs over with signs,"
            + " C without.");
        pair(11, 0, I, SUMS);
        pair(11, 1, I, SUMS);
        pair(9, 0, I, SUMS);
        pair(9, 1, I, SUMS_WITH_C);
    }

    private static void betweenAccumulators() {
        Sentence.is("10 A becomes A - B (as SUB), 11 the same told by flags alone; 16 B becomes A, 17 A becomes B (NZ);"
            + " 19 DAA; 1B A becomes A + B (as ADD).");
        for (int[] row : DIFFERENCES) {
            between(0x10, row[0], row[1], row[2], row[1], row[3], I | H);
            between(0x11, row[0], row[1], row[0], row[1], row[3], I | H);
        }
        for (int[] row : SUMS) {
            between(0x1B, row[0], row[1], row[2], row[1], row[3], I);
        }
        int[][] moved = {{0, Z}, {0x7F, 0}, {0x80, N}, {0xFF, N}};
        for (int[] row : moved) {
            between(0x16, row[0], 0x33, row[0], row[0], row[1], C | I | H);
            between(0x17, 0x33, row[0], row[0], row[0], row[1], C | I | H);
        }
    }

    private static void between(int opcode, int a, int b, int wantA, int wantB, int told, int staying) {
        int[] flagBytes = {0, C, ALL - C, ALL};
        for (int before : flagBytes) {
            String what = "opcode " + opcode + " of " + a + " and " + b + ", flags " + before;
            Bench bench = step(before, a, b, 0, opcode);
            bench.due(what, Bench.A, wantA);
            bench.due(what, Bench.B, wantB);
            bench.due(what, Bench.FLAGS, told | before & staying);
            bench.due(what, Bench.P, CODE + 1);
        }
    }

    private static void negateVIfTheResultIs128() {
        Sentence.is("0 NEG: 0 - M, NZ, V is set if the result is 128, C if it is not 0.");
        int[][] rows = {{0, 0, Z}, {1, 0xFF, N | C}, {0x80, 0x80, N | V | C}, {0xFF, 1, C}, {0x7F, 0x81, N | C},
            {0x81, 0x7F, C}};
        single(0, 0, I | H, rows);
        single(0, 1, I | H, rows);
    }

    private static void complementCSet() {
        Sentence.is("3 COM: all bits turned, NZ, C set.");
        int[][] rows = {{0, 0xFF, N | C}, {0xFF, 0, Z | C}, {0x80, 0x7F, C}, {0x7F, 0x80, N | C}};
        single(3, 0, I | H, rows);
        single(3, 1, I | H, rows);
    }

    private static void shiftsTheBitThatGoesOut() {
        Sentence.is("4 LSR down, 0 coming in; 6 ROR, C coming in; 7 ASR, bit 7 staying; 8 ASL up, 0 coming in;"
            + " 9 ROL, C coming in: C is the bit that goes out, nz, then V is set if N and C differ, else cleared.");
        int[][] lsr = {{0, 0, Z}, {1, 0, Z | V | C}, {0x80, 0x40, 0}, {0xFF, 0x7F, V | C}, {2, 1, 0}};
        int[][] asr = {{0, 0, Z}, {1, 0, Z | V | C}, {0x80, 0xC0, N | V}, {0x81, 0xC0, N | C}, {0x7F, 0x3F, V | C},
            {0xFF, 0xFF, N | C}};
        int[][] asl = {{0, 0, Z}, {0x80, 0, Z | V | C}, {0x40, 0x80, N | V}, {0xC0, 0x80, N | C}, {0xFF, 0xFE, N | C},
            {0x7F, 0xFE, N | V}, {0x3F, 0x7E, 0}};
        for (int carry = 0; carry <= 1; carry++) {
            single(4, carry, I | H, lsr);
            single(7, carry, I | H, asr);
            single(8, carry, I | H, asl);
        }
        single(6, 0, I | H, lsr);
        single(6, 1, I | H, row(0, 0x80, N | V), row(1, 0x80, N | C), row(0xFF, 0xFF, N | C), row(0xFE, 0xFF, N | V));
        single(9, 0, I | H, asl);
        single(9, 1, I | H, row(0, 1, 0), row(0x80, 1, V | C), row(0x40, 0x81, N | V), row(0xFF, 0xFF, N | C),
            row(0x7F, 0xFF, N | V));
    }

    private static void decrementVIfMWas128() {
        Sentence.is("A DEC: M - 1, nz, V set if M was 128, else cleared");
        int[][] rows = {{0, 0xFF, N}, {1, 0, Z}, {0x80, 0x7F, V}, {0x81, 0x80, N}, {0x7F, 0x7E, 0}};
        single(10, 0, C | I | H, rows);
        single(10, 1, C | I | H, rows);
    }

    private static void incrementVIfMWas127() {
        Sentence.is("C INC: M + 1, nz, V set if M was 127, else cleared.");
        int[][] rows = {{0xFF, 0, Z}, {0, 1, 0}, {0x7F, 0x80, N | V}, {0x80, 0x81, N}, {0xFE, 0xFF, N}, {0x7E, 0x7F, 0}};
        single(12, 0, C | I | H, rows);
        single(12, 1, C | I | H, rows);
    }

    private static void testAndClear() {
        Sentence.is("D TST: NZ of M, C cleared, nothing written; F CLR: 0, NZ, C cleared (M is not read).");
        int[][] told = {{0, 0, Z}, {0x7F, 0x7F, 0}, {0x80, 0x80, N}, {0xFF, 0xFF, N}};
        int[][] cleared = {{0, 0, Z}, {0x7F, 0, Z}, {0x80, 0, Z}, {0xFF, 0, Z}};
        for (int carry = 0; carry <= 1; carry++) {
            single(13, carry, I | H, told);
            single(15, carry, I | H, cleared);
        }
    }

    private static void compareXRunsOver() {
        Sentence.is("8C, 9C, AC, BC compare X with a word: nz of the difference of 16 bits,"
            + " V set if it runs over with signs, else cleared (C stays).");
        int[][] rows = {{0, 0, Z}, {0, 1, N}, {0x8000, 1, V}, {0x7FFF, 0xFFFF, N | V}, {0x7FFF, 0x8000, N | V},
            {0x8000, 0x7FFF, V}, {0x8000, 0x8000, Z}, {0, 0x8000, N | V}, {0xFFFF, 0xFFFF, Z}, {0xFFFF, 0, N},
            {0, 0xFFFF, 0}, {0xFFFF, 0x7FFF, N}, {0xFFFE, 0x7FFF, V}, {0x0100, 0x00FF, 0}, {0x00FF, 0x0100, N},
            {0x0080, 0, 0}, {0x0100, 0, 0}, {0x8000, 0, N}, {0xFFFF, 0x8000, 0}};
        for (int[] row : rows) {
            for (int carry = 0; carry <= 1; carry++) {
                for (int before : flagsWith(carry)) {
                    String what = "X " + row[0] + " with " + row[1] + ", flags " + before;
                    Bench bench = step(before, 1, 2, row[0], 0x8C, row[1] >> 8, row[1]);
                    bench.due(what, Bench.FLAGS, row[2] | before & (C | I | H));
                    bench.due(what, Bench.X, row[0]);
                }
            }
        }
    }

    private static void decimalAdjust() {
        Sentence.is("DAA: u, l are A's digits; 6 is added if l is above 9 or H is set; 96 if u is above 9, C is set,"
            + " or u is 9 and l above 9; both together to A; C is set if 96 was added, else it stays; nz; V is cleared.");
        int[][] rows = {
            {0x00, 0, 0x00, Z}, {0x09, 0, 0x09, 0}, {0x0A, 0, 0x10, 0}, {0x0F, 0, 0x15, 0}, {0x79, 0, 0x79, 0},
            {0x7A, 0, 0x80, N}, {0x90, 0, 0x90, N}, {0x99, 0, 0x99, N}, {0x9A, 0, 0x00, Z | C}, {0x9F, 0, 0x05, C},
            {0x8A, 0, 0x90, N}, {0x8F, 0, 0x95, N}, {0xA0, 0, 0x00, Z | C}, {0xA9, 0, 0x09, C}, {0xF9, 0, 0x59, C},
            {0xFF, 0, 0x65, C}, {0x00, H, 0x06, 0}, {0x09, H, 0x0F, 0}, {0x99, H, 0x9F, N}, {0x9A, H, 0x00, Z | C},
            {0xF9, H, 0x5F, C}, {0x00, C, 0x60, C}, {0x99, C, 0xF9, N | C}, {0x1F, C, 0x85, N | C},
            {0x1A, C, 0x80, N | C}, {0x19, C, 0x79, C}, {0xA0, C, 0x00, Z | C}, {0x00, C | H, 0x66, C},
            {0x33, C | H, 0x99, N | C}, {0x9A, C | H, 0x00, Z | C}
        };
        for (int[] row : rows) {
            int[] flagBytes = {row[1], row[1] | V | Z | N | I};
            for (int before : flagBytes) {
                String what = "DAA of " + row[0] + ", flags " + before;
                Bench bench = step(before, row[0], 0x5A, 0, 0x19);
                bench.due(what, Bench.A, row[2]);
                bench.due(what, Bench.FLAGS, row[3] | before & (I | H));
            }
        }
    }
}
