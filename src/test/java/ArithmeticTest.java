/** What the instructions on numbers make of every pair of bytes, and how the flags tell it. */
public final class ArithmeticTest {
    private static final int CODE = 0xFC5A;
    private static final int NZV = Bench.N | Bench.Z | Bench.V;
    private static final int[] DIGITS = {0, 1, 2, 4, 5, 6, 8, 9, 10, 11};
    private static final int[] EDGES = {0, 1, 0x0F, 0x10, 0x7F, 0x80, 0x81, 0xF0, 0xFE, 0xFF};
    private static final int[] WORDS = {0, 1, 0x7F, 0x80, 0xFF, 0x100, 0x7FEF, 0x7FFF, 0x8000, 0x8001, 0xFF00,
        0xFFFF};

    private static int result;
    private static int flags;

    public static void main(String[] args) {
        checkPairsOnFirst();
        checkPairsInAllPlaces();
        checkBetweenAccumulators();
        checkChanges();
        checkDecimal();
        checkDecimalSums();
        checkCompareX();
        Due.end();
    }

    private static void tell(int flag, boolean on) {
        flags = on ? flags | flag : flags & ~flag;
    }

    private static void tellNz(int value) {
        result = value & 0xFF;
        tell(Bench.N, result >= 128);
        tell(Bench.Z, result == 0);
    }

    private static int signed(int v) {
        return (byte) v;
    }

    private static boolean runsOver(int whole) {
        return whole < -128 || whole > 127;
    }

    /** The document's words for 80 .. FF, with signed numbers instead of masks. */
    private static void expectPair(int digit, int held, int m, int before) {
        flags = before;
        int c = before & 1;
        switch (digit) {
            case 0: case 1: expectDifference(held, m, 0); break;
            case 2: expectDifference(held, m, c); break;
            case 9: expectSum(held, m, c); break;
            case 11: expectSum(held, m, 0); break;
            case 4: case 5: expectLogic(held & m); break;
            case 6: expectLogic(m); break;
            case 8: expectLogic(held ^ m); break;
            default: expectLogic(held | m); break;
        }
        if (digit == 1 || digit == 5) {
            result = held;
        }
    }

    private static void expectDifference(int held, int m, int c) {
        tellNz(held - m - c);
        tell(Bench.V, runsOver(signed(held) - signed(m) - c));
        tell(Bench.C, held < m + c);
    }

    private static void expectSum(int held, int m, int c) {
        tellNz(held + m + c);
        tell(Bench.V, runsOver(signed(held) + signed(m) + c));
        tell(Bench.C, held + m + c >= 256);
        tell(Bench.H, held % 16 + m % 16 + c >= 16);
    }

    private static void expectLogic(int value) {
        tellNz(value);
        tell(Bench.V, false);
    }

    private static void checkPairsOnFirst() {
        for (int digit : DIGITS) {
            for (int held = 0; held < 256; held++) {
                for (int m = 0; m < 256; m++) {
                    int before = (held + m) % 2 == 0 ? 0 : 0x3E;
                    checkPair(0x80 + digit, held, m, before);
                    checkPair(0x80 + digit, held, m, before ^ 1);
                }
            }
        }
    }

    private static void checkPairsInAllPlaces() {
        for (int upper = 0x80; upper <= 0xF0; upper += 0x10) {
            for (int digit : DIGITS) {
                for (int held : EDGES) {
                    for (int m : EDGES) {
                        checkPair(upper + digit, held, m, 0x3F);
                        checkPair(upper + digit, held, m, 0);
                    }
                }
            }
        }
    }

    private static void checkPair(int opcode, int held, int m, int before) {
        boolean onFirst = opcode < 0xC0;
        Bench bench = new Bench();
        int behind = place(bench, opcode, m);
        bench.start(before, onFirst ? held : 0x5A, onFirst ? 0x5A : held, 0x00E0, CODE);
        bench.kit.run(1);
        expectPair(opcode & 15, held, m, before);
        String what = Integer.toHexString(opcode) + " of " + held + ", " + m + ", flags " + before;
        bench.due(what, onFirst ? Bench.A : Bench.B, result);
        bench.due(what, onFirst ? Bench.B : Bench.A, 0x5A);
        bench.due(what, Bench.FLAGS, flags);
        bench.due(what, Bench.P, CODE + behind);
    }

    /** Puts an instruction on m at CODE (X is to be E0h); how many bytes it has. */
    private static int place(Bench bench, int opcode, int m) {
        switch (opcode >> 4 & 3) {
            case 0:
                bench.kit.put(CODE, opcode << 24 | m << 16);
                return 2;
            case 1:
                bench.kit.put(CODE, opcode << 24 | 0x30 << 16);
                bench.kit.put(0x30, m << 24);
                return 2;
            case 2:
                bench.kit.put(CODE, opcode << 24 | 0xF0 << 16);
                bench.kit.put(0x01D0, m << 24);
                return 2;
            default:
                bench.kit.put(CODE, opcode << 24 | 0x02FF << 8);
                bench.kit.put(0x02FF, m << 24);
                return 3;
        }
    }

    private static void checkBetweenAccumulators() {
        for (int a : EDGES) {
            for (int b : EDGES) {
                for (int before = 0; before < 64; before += 21) {
                    expectPair(0, a, b, before);
                    checkInherent(0x10, a, b, before, result, b);
                    checkInherent(0x11, a, b, before, a, b);
                    expectPair(11, a, b, before);
                    checkInherent(0x1B, a, b, before, result, b);
                    expectPair(6, b, a, before);
                    checkInherent(0x16, a, b, before, a, a);
                    expectPair(6, a, b, before);
                    checkInherent(0x17, a, b, before, b, b);
                }
            }
        }
    }

    private static void checkInherent(int opcode, int a, int b, int before, int wantA, int wantB) {
        Bench bench = new Bench().start(before, a, b, 0x1234, CODE);
        bench.kit.put(CODE, opcode << 24);
        bench.kit.run(1);
        String what = Integer.toHexString(opcode) + " of " + a + ", " + b + ", flags " + before;
        bench.due(what, Bench.A, wantA);
        bench.due(what, Bench.B, wantB);
        bench.due(what, Bench.X, 0x1234);
        bench.due(what, Bench.S, Bench.STACK);
        bench.due(what, Bench.P, CODE + 1);
        bench.due(what, Bench.FLAGS, flags);
    }

    /** The document's words for 40 .. 7F. */
    private static void expectChange(int digit, int m, int before) {
        flags = before;
        int c = before & 1;
        switch (digit) {
            case 0:
                tellNz(256 - m);
                tell(Bench.V, result == 128);
                tell(Bench.C, result != 0);
                break;
            case 3:
                expectLogic(255 - m);
                tell(Bench.C, true);
                break;
            case 4: expectShift(m / 2, m % 2 == 1); break;
            case 6: expectShift(m / 2 + 128 * c, m % 2 == 1); break;
            case 7: expectShift(m / 2 + (m >= 128 ? 128 : 0), m % 2 == 1); break;
            case 8: expectShift(m * 2, m >= 128); break;
            case 9: expectShift(m * 2 + c, m >= 128); break;
            case 10:
                tellNz(m - 1);
                tell(Bench.V, m == 128);
                break;
            case 12:
                tellNz(m + 1);
                tell(Bench.V, m == 127);
                break;
            case 13:
                expectLogic(m);
                tell(Bench.C, false);
                break;
            default:
                expectLogic(0);
                tell(Bench.C, false);
                break;
        }
    }

    private static void expectShift(int value, boolean out) {
        tellNz(value);
        tell(Bench.C, out);
        tell(Bench.V, (result >= 128) != out);
    }

    private static void checkChanges() {
        int[] digits = {0, 3, 4, 6, 7, 8, 9, 10, 12, 13, 15};
        int[] flagBytes = {0, 1, 0x3E, 0x3F};
        for (int digit : digits) {
            for (int m = 0; m < 256; m++) {
                for (int before : flagBytes) {
                    expectChange(digit, m, before);
                    checkInherent(0x40 + digit, m, 0x77, before, result, 0x77);
                    checkInherent(0x50 + digit, 0x77, m, before, 0x77, result);
                    checkChangeInMemory(0x60 + digit, m, before, 0x01D0);
                    checkChangeInMemory(0x70 + digit, m, before, 0x02FF);
                }
            }
        }
    }

    private static void checkChangeInMemory(int opcode, int m, int before, int address) {
        Bench bench = new Bench();
        int behind = place(bench, opcode, m);
        bench.start(before, 0x12, 0x34, 0x00E0, CODE);
        bench.kit.run(1);
        String what = Integer.toHexString(opcode) + " of " + m + ", flags " + before;
        bench.dueByte(what, address, result);
        bench.due(what, Bench.A, 0x12);
        bench.due(what, Bench.B, 0x34);
        bench.due(what, Bench.X, 0x00E0);
        bench.due(what, Bench.FLAGS, flags);
        bench.due(what, Bench.P, CODE + behind);
    }

    private static void checkDecimal() {
        for (int a = 0; a < 256; a++) {
            for (int before = 0; before < 64; before++) {
                int u = a / 16;
                int l = a % 16;
                boolean c = (before & Bench.C) != 0;
                boolean high = u > 9 || c || u == 9 && l > 9;
                boolean low = l > 9 || (before & Bench.H) != 0;
                flags = before;
                expectLogic(a + (high ? 96 : 0) + (low ? 6 : 0));
                tell(Bench.C, high || c);
                checkInherent(0x19, a, 0x55, before, result, 0x55);
            }
        }
    }

    private static int packed(int number) {
        return number / 10 * 16 + number % 10;
    }

    private static void checkDecimalSums() {
        for (int one = 0; one < 100; one++) {
            for (int other = 0; other < 100; other += 3) {
                Bench bench = new Bench().code(CODE, 0x1B, 0x19);
                bench.start(0, packed(one), packed(other), 0, CODE);
                bench.kit.run(2);
                String what = one + " + " + other;
                bench.due(what, Bench.A, packed((one + other) % 100));
                Due.same(what, bench.get(Bench.FLAGS) & Bench.C, one + other >= 100 ? 1 : 0);
            }
        }
    }

    private static void checkCompareX() {
        for (int x : WORDS) {
            for (int m : WORDS) {
                checkCompareX(x, m, 0);
                checkCompareX(x, m, 0x3F);
            }
        }
    }

    private static void checkCompareX(int x, int m, int before) {
        Bench bench = new Bench().code(CODE, 0x8C, m >> 8, m).start(before, 1, 2, x, CODE);
        bench.kit.run(1);
        int whole = (short) x - (short) m;
        flags = before & ~NZV;
        tell(Bench.N, (short) whole < 0);
        tell(Bench.Z, x == m);
        tell(Bench.V, whole < -32768 || whole > 32767);
        String what = "X " + x + " compared with " + m;
        bench.due(what, Bench.FLAGS, flags);
        bench.due(what, Bench.X, x);
        bench.due(what, Bench.P, CODE + 3);
    }
}
