/** The edges that the sentences about instructions name, each with its numbers written out. */
final class EdgeInstructionTest {
    private static final int S = 128;
    private static final int Z = 64;
    private static final int Y = 32;
    private static final int H = 16;
    private static final int X = 8;
    private static final int V = 4;
    private static final int N = 2;
    private static final int C = 1;

    public static void main(String[] args) {
        sums();
        differences();
        comparing();
        logic();
        countingByOne();
        sumsOfPairs();
        sumsWithCarry();
        turning();
        turningAAlone();
        bits();
        adjusting();
        negating();
        twelveBits();
        flagsByIAndR();
        conditions();
        nearDistances();
        moving();
        looking();
        numbersOfPrefixes();
        whatPrefixesStandFor();
        displacements();
        rotationsBehindPrefixes();
        placesOfNothing();
        Check.end();
    }

    private static void afterOp(int y, int a, int v, int f, int dueA, int dueF) {
        String name = "OP " + y + " of " + a + " and " + v + ", F = " + f;
        Lab lab = Lab.with(198 + 8 * y, v).set(Lab.A, a).set(Lab.F, f);
        lab.step();
        Check.same(name, lab.get(Lab.A), dueA);
        Check.same("flags of " + name, lab.get(Lab.F), dueF);
    }

    /** "H the carry out of bit 3 into bit 4, C that out of bit 7, V set if the result is not -128 .. 127" */
    private static void sums() {
        afterOp(0, 0, 0, 255, 0, Z);
        afterOp(0, 14, 1, 255, 15, X);
        afterOp(0, 15, 1, 0, 16, H);
        afterOp(0, 126, 1, 255, 127, Y | X);
        afterOp(0, 127, 0, 255, 127, Y | X);
        afterOp(0, 127, 1, 0, 128, S | H | V);
        afterOp(0, 128, 0, 0, 128, S);
        afterOp(0, 128, 255, 0, 127, Y | X | V | C);
        afterOp(0, 129, 255, 0, 128, S | H | C);
        afterOp(0, 128, 128, 0, 0, Z | V | C);
        afterOp(0, 254, 1, 0, 255, S | Y | X);
        afterOp(0, 255, 1, 0, 0, Z | H | C);
        afterOp(0, 255, 255, 0, 254, S | Y | H | X | C);
        afterOp(0, 5, 5, C, 10, X);
        afterOp(1, 5, 5, C, 11, X);
        afterOp(1, 5, 5, 254, 10, X);
        afterOp(1, 127, 0, C, 128, S | H | V);
        afterOp(1, 126, 0, C, 127, Y | X);
        afterOp(1, 255, 0, C, 0, Z | H | C);
        afterOp(1, 255, 255, C, 255, S | Y | H | X | C);
        afterOp(1, 15, 0, C, 16, H);
        afterOp(1, 14, 0, C, 15, X);
        afterOp(1, 128, 127, C, 0, Z | H | C);
    }

    private static void differences() {
        afterOp(2, 0, 0, 255, 0, Z | N);
        afterOp(2, 0, 1, 0, 255, S | Y | H | X | N | C);
        afterOp(2, 16, 1, 0, 15, H | X | N);
        afterOp(2, 17, 1, 0, 16, N);
        afterOp(2, 128, 1, 0, 127, Y | H | X | V | N);
        afterOp(2, 129, 1, 0, 128, S | N);
        afterOp(2, 127, 255, 0, 128, S | V | N | C);
        afterOp(2, 126, 255, 0, 127, Y | H | X | N | C);
        afterOp(2, 255, 255, 0, 0, Z | N);
        afterOp(2, 0, 128, 0, 128, S | V | N | C);
        afterOp(2, 5, 5, C, 0, Z | N);
        afterOp(3, 5, 5, C, 255, S | Y | H | X | N | C);
        afterOp(3, 5, 5, 254, 0, Z | N);
        afterOp(3, 5, 4, C, 0, Z | N);
        afterOp(3, 128, 0, C, 127, Y | H | X | V | N);
        afterOp(3, 0, 255, C, 0, Z | H | N | C);
        afterOp(3, 16, 0, C, 15, H | X | N);
        afterOp(3, 127, 127, C, 255, S | Y | H | X | N | C);
        afterOp(3, 127, 255, C, 127, Y | H | X | N | C);
    }

    /** "flags by the result, but Y and X by v with 7", "without changing A" */
    private static void comparing() {
        afterOp(7, 0, 0, 255, 0, Z | N);
        afterOp(7, 40, 40, C, 40, Z | Y | X | N);
        afterOp(7, 0, 40, 0, 0, S | Y | H | X | N | C);
        afterOp(7, 0, 8, 0, 0, S | H | X | N | C);
        afterOp(7, 0, 32, 0, 0, S | Y | N | C);
        afterOp(7, 40, 0, 0, 40, N);
        afterOp(7, 128, 1, 0, 128, H | V | N);
        afterOp(7, 127, 255, 0, 127, S | Y | X | V | N | C);
    }

    /** "flags by it, parity, N and C not, H set for 4 alone" */
    private static void logic() {
        afterOp(4, 0, 255, 255, 0, Z | H | V);
        afterOp(4, 255, 255, 255, 255, S | Y | H | X | V);
        afterOp(4, 255, 1, 255, 1, H);
        afterOp(4, 255, 3, 0, 3, H | V);
        afterOp(5, 255, 255, 255, 0, Z | V);
        afterOp(5, 0, 128, 255, 128, S);
        afterOp(5, 0, 129, 255, 129, S | V);
        afterOp(6, 0, 0, 255, 0, Z | V);
        afterOp(6, 127, 128, 255, 255, S | Y | X | V);
        afterOp(6, 40, 1, 0, 41, Y | X);
    }

    /** "INC and DEC: as + 1 and - 1, but C stays." */
    private static void countingByOne() {
        int[][] cases = {{60, 255, 0, Z | H}, {60, 127, 128, S | H | V}, {60, 126, 127, Y | X}, {60, 15, 16, H},
            {60, 14, 15, X}, {60, 254, 255, S | Y | X}, {60, 0, 1, 0}, {61, 0, 255, S | Y | H | X | N},
            {61, 128, 127, Y | H | X | V | N}, {61, 129, 128, S | N}, {61, 16, 15, H | X | N}, {61, 17, 16, N},
            {61, 1, 0, Z | N}, {61, 255, 254, S | Y | X | N}};
        for (int[] one : cases) {
            for (int c = 0; c < 2; c++) {
                Lab lab = Lab.with(one[0]).set(Lab.A, one[1]).set(Lab.F, 254 * (1 - c) + c);
                lab.step();
                Check.same(one[0] + " of " + one[1], lab.get(Lab.A), one[2]);
                Check.same("flags of " + one[0] + " of " + one[1], lab.get(Lab.F), one[3] + c);
            }
        }
    }

    private static void afterPair(String name, Lab lab, int hl, int w, int f, int dueHl, int dueF) {
        lab.setPair(Lab.H, hl).setPair(Lab.D, w).set(Lab.F, f).step();
        Check.same(name + " " + hl + " and " + w + ", F = " + f, lab.pair(Lab.H), dueHl);
        Check.same("flags of " + name + " " + hl + " and " + w + ", F = " + f, lab.get(Lab.F), dueF);
    }

    /** "H is the carry out of bit 11, C out of bit 15, Y and X by the high byte, N not" */
    private static void sumsOfPairs() {
        int[][] cases = {{0x0FFF, 0, 0x0FFF, X}, {0x0FFF, 1, 0x1000, H}, {0x07FF, 1, 0x0800, X}, {0xFFFF, 0, 0xFFFF,
            Y | X}, {0xFFFF, 1, 0, H | C}, {0x8000, 0x8000, 0, C}, {0x7FFF, 1, 0x8000, H}, {0x2000, 0x0800, 0x2800,
            Y | X}, {0x00FF, 1, 0x0100, 0}, {0, 0, 0, 0}};
        for (int[] one : cases) {
            afterPair("HL + DE", Lab.with(25), one[0], one[1], 0, one[2], one[3]);
            afterPair("HL + DE", Lab.with(25), one[0], one[1], 255, one[2], one[3] | S | Z | V);
        }
    }

    /** "S, Y, X by the high byte, Z for all 16 bits, H, V, C as for bytes but with bits 11 and 15" */
    private static void sumsWithCarry() {
        int[][] sums = {{0, 0, 0, 0, Z}, {0, 0, 1, 1, 0}, {0x00FF, 0, 1, 0x0100, 0}, {0x0FFF, 0, 1, 0x1000, H},
            {0x0FFF, 0, 0, 0x0FFF, X}, {0x7FFF, 0, 1, 0x8000, S | H | V}, {0x7FFF, 1, 0, 0x8000, S | H | V},
            {0x7FFE, 0, 1, 0x7FFF, Y | X}, {0xFFFF, 0, 1, 0, Z | H | C}, {0x8000, 0xFFFF, 0, 0x7FFF, Y | X | V | C},
            {0x8000, 0x8000, 0, 0, Z | V | C}, {0xFFFF, 0xFFFF, 1, 0xFFFF, S | Y | H | X | C},
            {0xFF00, 0x0100, 0, 0, Z | H | C}};
        for (int[] one : sums) {
            afterPair("HL + DE + C", Lab.with(237, 90), one[0], one[1], 254 + one[2] & 255, one[3], one[4]);
            afterPair("HL + DE + C", Lab.with(237, 90), one[0], one[1], one[2], one[3], one[4]);
        }
        int[][] differences = {{0, 0, 0, 0, Z | N}, {0, 0, 1, 0xFFFF, S | Y | H | X | N | C}, {1, 0, 1, 0, Z | N},
            {0x1000, 0, 1, 0x0FFF, H | X | N}, {0x1001, 0, 1, 0x1000, N}, {0x8000, 0, 1, 0x7FFF, Y | H | X | V | N},
            {0x8001, 0, 1, 0x8000, S | N}, {0x7FFF, 0xFFFF, 0, 0x8000, S | V | N | C},
            {0x7FFF, 0xFFFF, 1, 0x7FFF, Y | H | X | N | C}, {0, 0xFFFF, 1, 0, Z | H | N | C},
            {0x0100, 1, 0, 0x00FF, N}, {0x1234, 0x1234, 0, 0, Z | N}};
        for (int[] one : differences) {
            afterPair("HL - DE - C", Lab.with(237, 82), one[0], one[1], 254 + one[2] & 255, one[3], one[4]);
            afterPair("HL - DE - C", Lab.with(237, 82), one[0], one[1], one[2], one[3], one[4]);
        }
    }

    private static void afterTurn(int y, int v, int c, int due, int dueF) {
        Lab lab = Lab.with(203, 8 * y).set(Lab.B, v).set(Lab.F, 254 * (1 - c) + c);
        lab.step();
        Check.same("turning " + v + " by " + y + ", C = " + c, lab.get(Lab.B), due);
        Check.same("flags of turning " + v + " by " + y + ", C = " + c, lab.get(Lab.F), dueF);
    }

    private static void turning() {
        for (int c = 0; c < 2; c++) {
            afterTurn(0, 128, c, 1, C);
            afterTurn(0, 1, c, 2, 0);
            afterTurn(1, 1, c, 128, S | C);
            afterTurn(1, 128, c, 64, 0);
            afterTurn(2, 128, c, c, (c == 0 ? Z | V : 0) | C);
            afterTurn(2, 127, c, 254 + c, S | Y | X | (c == 1 ? V : 0));
            afterTurn(3, 1, c, 128 * c, (c == 0 ? Z | V : S) | C);
            afterTurn(3, 254, c, 127 + 128 * c, Y | X | (c == 1 ? S | V : 0));
            afterTurn(4, 128, c, 0, Z | V | C);
            afterTurn(4, 255, c, 254, S | Y | X | C);
            afterTurn(5, 129, c, 192, S | V | C);
            afterTurn(5, 1, c, 0, Z | V | C);
            afterTurn(5, 127, c, 63, Y | X | V | C);
            afterTurn(6, 128, c, 1, C);
            afterTurn(6, 0, c, 1, 0);
            afterTurn(7, 1, c, 0, Z | V | C);
            afterTurn(7, 255, c, 127, Y | X | C);
            afterTurn(7, 128, c, 64, 0);
        }
    }

    /** "of A, but S, Z, V stay", "(In z 7: Y and X by A.)" */
    private static void turningAAlone() {
        int[][] cases = {{7, 128, 0, 1, C}, {7, 128, 1, 1, C}, {15, 1, 0, 128, C}, {23, 128, 0, 0, C},
            {23, 128, 1, 1, C}, {23, 20, 0, 40, Y | X}, {31, 1, 0, 0, C}, {31, 1, 1, 128, C}, {31, 80, 0, 40, Y | X}};
        for (int[] one : cases) {
            for (int rest : new int[] {0, S | Z | V, Y | X | H | N}) {
                Lab lab = Lab.with(one[0]).set(Lab.A, one[1]).set(Lab.F, rest | one[2]);
                lab.step();
                Check.same(one[0] + " of " + one[1] + ", C = " + one[2], lab.get(Lab.A), one[3]);
                Check.same("its flags", lab.get(Lab.F), one[4] | rest & (S | Z | V));
            }
        }
        int[][] alone = {{47, 0, 0, 255, Y | H | X | N}, {47, 255, 1, 0, H | N | C}, {47, 255 - 40, 0, 40,
            Y | H | X | N}, {55, 0, 0, 0, C}, {55, 40, 1, 40, Y | X | C}, {63, 0, 0, 0, C}, {63, 0, 1, 0, H},
            {63, 40, 1, 40, Y | H | X}, {63, 8, 0, 8, X | C}};
        for (int[] one : alone) {
            for (int rest : new int[] {0, S | Z | V, Y | X | H | N}) {
                Lab lab = Lab.with(one[0]).set(Lab.A, one[1]).set(Lab.F, rest | one[2]);
                lab.step();
                Check.same(one[0] + " of " + one[1], lab.get(Lab.A), one[3]);
                Check.same("its flags", lab.get(Lab.F), one[4] | rest & (S | Z | V));
            }
        }
    }

    /** "Z and V set if the bit is 0, S set if y is 7 and it is 1, Y and X by v, H set, N not" */
    private static void bits() {
        int[][] cases = {{0, 1, H}, {0, 254, Z | Y | H | X | V}, {7, 128, S | H}, {7, 127, Z | Y | H | X | V},
            {6, 64, H}, {6, 191, Z | Y | H | X | V}, {5, 32, Y | H}, {3, 8, H | X}, {3, 247, Z | Y | H | V},
            {0, 0, Z | H | V}, {7, 255, S | Y | H | X}, {6, 255, Y | H | X}};
        for (int[] one : cases) {
            for (int c = 0; c < 2; c++) {
                int f = 254 * (1 - c) + c;
                int opcode = 64 + 8 * one[0];
                Lab lab = Lab.with(203, opcode + 1).set(Lab.C, one[1]).set(Lab.F, f);
                lab.step();
                Check.same("BIT " + one[0] + " of C = " + one[1], lab.get(Lab.F), one[2] | c);
                lab = Lab.with(203, opcode + 6).setPair(Lab.H, 0xFCCC).put(0xCCC, one[1]).set(Lab.F, f);
                lab.step();
                Check.same("BIT " + one[0] + " of M = " + one[1], lab.get(Lab.F), one[2] | c);
                lab = Lab.with(253, 203, 4, opcode + 2).set(Lab.Y, 0xFCCC).put(0xCD0, one[1]).set(Lab.F, f);
                lab.step();
                Check.same("BIT " + one[0] + " at Y + 4 = " + one[1], lab.get(Lab.F), one[2] | c);
                Check.same("nothing is written", lab.peek(0xCD0), one[1]);
                Check.same("D gets nothing", lab.get(Lab.D), 0);
            }
        }
        for (int y = 0; y < 8; y++) {
            for (int v : new int[] {0, 255}) {
                Lab lab = Lab.with(203, 128 + 8 * y, 203, 193 + 8 * y).set(Lab.B, v).set(Lab.C, v).set(Lab.F, v);
                lab.computer.step(2);
                Check.same("bit " + y + " of " + v + " becomes 0", lab.get(Lab.B), v & 255 - (1 << y));
                Check.same("bit " + y + " of " + v + " becomes 1", lab.get(Lab.C), v | 1 << y);
                Check.same("flags stay", lab.get(Lab.F), v);
            }
        }
    }

    /** "d = 6 if H or A & 15 is above 9", "96 more if C or A is above 153: then C is set" */
    private static void adjusting() {
        int[][] cases = {{0, 0, 0, Z | V}, {9, 0, 9, X | V}, {10, 0, 16, H}, {15, 0, 21, H}, {16, 0, 16, 0},
            {0x99, 0, 0x99, S | X | V}, {0x9A, 0, 0, Z | H | V | C}, {0x90, 0, 0x90, S | V}, {0xA0, 0, 0, Z | V | C},
            {0x9F, 0, 5, H | V | C}, {0xFF, 0, 0x65, Y | H | V | C}, {0, H, 6, V}, {9, H, 15, X | V},
            {0, C, 0x60, Y | V | C}, {0, H | C, 0x66, Y | V | C}, {0, N, 0, Z | V | N}, {9, N, 9, X | V | N},
            {10, N, 4, N}, {15, N, 9, X | V | N}, {0x99, N, 0x99, S | X | V | N}, {0x9A, N, 0x34, Y | N | C},
            {0, N | H, 250, S | Y | H | X | V | N}, {0, N | C, 0xA0, S | Y | V | N | C},
            {0, N | H | C, 0x9A, S | H | X | V | N | C}, {6, N | H, 0, Z | V | N}};
        for (int[] one : cases) {
            Lab lab = Lab.with(39).set(Lab.A, one[0]).set(Lab.F, one[1]);
            lab.step();
            Check.same("ADJUST of " + one[0] + ", F = " + one[1], lab.get(Lab.A), one[2]);
            Check.same("flags of ADJUST of " + one[0] + ", F = " + one[1], lab.get(Lab.F), one[3]);
        }
    }

    private static void negating() {
        int[][] cases = {{0, 0, Z | N}, {1, 255, S | Y | H | X | N | C}, {128, 128, S | V | N | C},
            {127, 129, S | H | N | C}, {129, 127, Y | H | X | N | C}, {255, 1, H | N | C}, {16, 240, S | Y | N | C}};
        for (int[] one : cases) {
            Lab lab = Lab.with(237, 124).set(Lab.A, one[0]).set(Lab.F, 255);
            lab.step();
            Check.same("0 - " + one[0], lab.get(Lab.A), one[1]);
            Check.same("flags of 0 - " + one[0], lab.get(Lab.F), one[2]);
        }
    }

    private static void twelveBits() {
        int[][] cases = {{103, 0x7A, 0x31, 0x71, 0xA3, Y | V}, {111, 0x7A, 0x31, 0x73, 0x1A, Y},
            {103, 0x0F, 0xF0, 0x00, 0xFF, Z | V}, {111, 0x0F, 0x0F, 0x00, 0xFF, Z | V},
            {103, 0xF0, 0x0F, 0xFF, 0x00, S | Y | X | V}, {111, 0xF0, 0xF0, 0xFF, 0x00, S | Y | X | V}};
        for (int[] one : cases) {
            for (int c = 0; c < 2; c++) {
                Lab lab = Lab.with(237, one[0]).set(Lab.A, one[1]).setPair(Lab.H, 3333).put(3333, one[2]);
                lab.set(Lab.F, 254 * (1 - c) + c).step();
                Check.same("A by " + one[0], lab.get(Lab.A), one[3]);
                Check.same("M by " + one[0], lab.peek(3333), one[4]);
                Check.same("flags by " + one[0], lab.get(Lab.F), one[5] | c);
            }
        }
    }

    /** "flags by it, V is IFF2, H and N not" */
    private static void flagsByIAndR() {
        int[][] cases = {{0, Z}, {128, S}, {40, Y | X}, {255, S | Y | X}, {127, Y | X}};
        for (int[] one : cases) {
            for (int iff = 0; iff < 4; iff++) {
                int r = one[0] / 128 * 128 + (one[0] + 126) % 128;
                Lab lab = Lab.with(237, 87, 237, 95).waitUntil(40).set(Lab.I, one[0]);
                lab.set(Lab.IFF1, iff >> 1).set(Lab.IFF2, iff & 1).set(Lab.F, 255).step();
                Check.same("A = I", lab.get(Lab.A), one[0]);
                Check.same("its flags", lab.get(Lab.F), one[1] | (iff & 1) * V | C);
                lab.set(Lab.R, r).set(Lab.F, 0).step();
                Check.same("A = R", lab.get(Lab.A), one[0]);
                Check.same("its flags", lab.get(Lab.F), one[1] | (iff & 1) * V);
            }
        }
    }

    /** "cond(k): not Z, Z, not C, C, not V, V, not S, S": each flag alone, and all but it. */
    private static void conditions() {
        int[] flags = {Z, Z, C, C, V, V, S, S};
        for (int k = 0; k < 8; k++) {
            for (int f : new int[] {0, flags[k], 255 - flags[k], 255}) {
                boolean goes = (f & flags[k]) != 0 == (k % 2 == 1);
                Lab lab = Lab.with(194 + 8 * k, 0x34, 0x12).set(Lab.F, f);
                lab.step();
                Check.same("PC = nn if " + k + ", F = " + f, lab.get(Lab.PC), goes ? 0x1234 : Lab.HOME + 3);
                lab = Lab.with(192 + 8 * k).set(Lab.F, f).put(4000, 0x34, 0x12);
                lab.step();
                Check.same("RETURN if " + k + ", F = " + f, lab.get(Lab.PC), goes ? 0x1234 : Lab.HOME + 1);
                Check.same("SP then", lab.get(Lab.SP), goes ? 4002 : 4000);
                lab = Lab.with(196 + 8 * k, 0x34, 0x12).set(Lab.F, f);
                lab.step();
                Check.same("CALL if " + k + ", F = " + f, lab.get(Lab.PC), goes ? 0x1234 : Lab.HOME + 3);
                Check.same("SP then", lab.get(Lab.SP), goes ? 3998 : 4000);
            }
        }
    }

    /** "e the next one as -128 .. 127" */
    private static void nearDistances() {
        int[][] cases = {{0, 2}, {1, 3}, {127, 129}, {128, -126}, {129, -125}, {254, 0}, {255, 1}};
        for (int[] one : cases) {
            int[] always = {24, 16, 32, 48};
            int[] never = {40, 56};
            for (int opcode : always) {
                Lab lab = Lab.with(opcode, one[0]).set(Lab.B, 5);
                lab.step();
                Check.same(opcode + " by " + one[0], lab.get(Lab.PC), Lab.HOME + one[1]);
            }
            for (int opcode : never) {
                Lab lab = Lab.with(opcode, one[0]);
                Check.same("e is read in any case", lab.step(), 7);
                Check.same(opcode + " by " + one[0], lab.get(Lab.PC), Lab.HOME + 2);
            }
            Lab lab = Lab.with(40, one[0]).set(Lab.F, Z);
            lab.step();
            Check.same("if Z by " + one[0], lab.get(Lab.PC), Lab.HOME + one[1]);
            lab = Lab.with(56, one[0]).set(Lab.F, C);
            lab.step();
            Check.same("if C by " + one[0], lab.get(Lab.PC), Lab.HOME + one[1]);
        }
    }

    private static Lab block(int opcode, int bc, int a, int v, int f) {
        Lab lab = Lab.with(237, opcode).setPair(Lab.B, bc).setPair(Lab.D, 3500).setPair(Lab.H, 3333);
        return lab.put(3333, v).set(Lab.A, a).set(Lab.F, f);
    }

    /** "V is set if BC is not 0, t = A + v: Y is set if t & 2 is not 0, X if t & 8 is not 0" */
    private static void moving() {
        int[][] cases = {{1, 0, 0, 0}, {2, 0, 0, V}, {0, 0, 0, V}, {1, 1, 1, Y}, {1, 0, 2, Y}, {1, 4, 4, X},
            {1, 0, 8, X}, {1, 5, 5, Y | X}, {1, 255, 1, 0}, {1, 255, 255, Y | X}, {1, 0, 32, 0}, {1, 0, 245, 0}};
        for (int[] one : cases) {
            for (int opcode : new int[] {160, 168, 176, 184}) {
                for (int f : new int[] {0, 255}) {
                    Lab lab = block(opcode, one[0], one[1], one[2], f);
                    lab.step();
                    Check.same("flags of " + opcode + " with A = " + one[1] + ", v = " + one[2] + ", BC = " + one[0],
                            lab.get(Lab.F), one[3] | f & (S | Z | C));
                    boolean again = opcode >= 176 && one[0] != 1;
                    Check.same("PC then", lab.get(Lab.PC), Lab.HOME + (again ? 0 : 2));
                    int by = opcode % 16 == 0 ? 1 : -1;
                    Check.same("HL then", lab.pair(Lab.H), 3333 + by);
                    Check.same("DE then", lab.pair(Lab.D), 3500 + by);
                    Check.same("the byte", lab.peek(3500), one[2]);
                }
            }
        }
    }

    /** "S, Z by t, H as OP 7, N set, V as with MOVE; Y and X as with MOVE, but by t, less 1 if H is set" */
    private static void looking() {
        int[][] cases = {{1, 5, 5, Z | N}, {2, 5, 5, Z | V | N}, {2, 6, 5, V | N}, {0, 6, 5, V | N},
            {1, 6, 5, N}, {1, 7, 5, Y | N}, {1, 16, 1, Y | H | X | N}, {1, 16, 6, H | X | N}, {1, 16, 7, H | X | N},
            {1, 16, 8, Y | H | N}, {1, 0, 1, S | Y | H | X | N}, {1, 0, 128, S | N}, {1, 128, 0, S | N},
            {1, 127, 255, S | N}, {1, 16, 15, H | N}, {1, 8, 0, X | N}, {1, 3, 0, Y | N}, {1, 32, 0, N}};
        for (int[] one : cases) {
            for (int opcode : new int[] {161, 169, 177, 185}) {
                for (int f : new int[] {0, 255}) {
                    Lab lab = block(opcode, one[0], one[1], one[2], f);
                    lab.step();
                    Check.same("flags of " + opcode + " with A = " + one[1] + ", v = " + one[2] + ", BC = " + one[0],
                            lab.get(Lab.F), one[3] | f & C);
                    boolean again = opcode >= 176 && one[0] != 1 && one[1] != one[2];
                    Check.same("PC then", lab.get(Lab.PC), Lab.HOME + (again ? 0 : 2));
                    Check.same("HL then", lab.pair(Lab.H), 3333 + (opcode % 16 == 1 ? 1 : -1));
                    Check.same("DE then", lab.pair(Lab.D), 3500);
                    Check.same("A then", lab.get(Lab.A), one[1]);
                    Check.same("the byte", lab.peek(3333), one[2]);
                }
            }
        }
    }

    /** "a fourth prefix in an instruction does nothing and ends it": every chain of one to eight prefixes. */
    private static void numbersOfPrefixes() {
        for (int length = 1; length <= 8; length++) {
            for (int chain = 0; chain < 1 << length; chain++) {
                Lab lab = Lab.with().set(Lab.X, 100).set(Lab.Y, 200).setPair(Lab.H, 300);
                for (int k = 0; k < length; k++) {
                    lab.put(Lab.HOME + k, (chain >> k & 1) == 0 ? 221 : 253);
                }
                lab.put(Lab.HOME + length, 35);
                int ended = length / 4;
                int left = length % 4;
                for (int k = 0; k < ended; k++) {
                    Check.same("ticks of four prefixes", lab.step(), 16);
                    Check.same("PC behind them", lab.get(Lab.PC), Lab.HOME + 4 * k + 4);
                }
                Check.same("ticks behind " + left + " prefixes", lab.step(), 4 * left + 4);
                boolean y = (chain >> length - 1 & 1) == 1;
                Check.same("X behind " + length, lab.get(Lab.X), left > 0 && !y ? 101 : 100);
                Check.same("Y behind " + length, lab.get(Lab.Y), left > 0 && y ? 201 : 200);
                Check.same("HL behind " + length, lab.pair(Lab.H), left == 0 ? 301 : 300);
                Check.same("R behind " + length, lab.get(Lab.R), length + 1);
            }
        }
        for (int length = 1; length <= 3; length++) {
            Lab lab = Lab.with(221, 221, 221).put(Lab.HOME + length, 237, 98).setPair(Lab.H, 5).set(Lab.X, 7);
            lab.step();
            Check.same("HL - HL behind " + length, lab.pair(Lab.H), 0);
            Check.same("X behind " + length, lab.get(Lab.X), 7);
        }
    }

    /** "its halves for H and L", "DE and HL change places as without", "PC = HL", "SP = HL" */
    private static void whatPrefixesStandFor() {
        Lab lab = Lab.with(221, 38, 1, 221, 46, 2, 253, 38, 3, 253, 46, 4).setPair(Lab.H, 0x5566);
        lab.computer.step(4);
        Check.same("X by its halves", lab.get(Lab.X), 0x0102);
        Check.same("Y by its halves", lab.get(Lab.Y), 0x0304);
        Check.same("HL", lab.pair(Lab.H), 0x5566);
        lab = Lab.with(221, 101, 221, 108).set(Lab.X, 0x1234);
        lab.step();
        Check.same("the high half = the low one", lab.get(Lab.X), 0x3434);
        lab = Lab.with(221, 108).set(Lab.X, 0x1234).setPair(Lab.H, 0x5566);
        lab.step();
        Check.same("the low half = the high one", lab.get(Lab.X), 0x1212);
        lab = Lab.with(221, 102, 0, 253, 110, 0, 221, 116, 1, 253, 117, 1).set(Lab.X, 3000).set(Lab.Y, 3100);
        lab.put(3000, 77).put(3100, 88).computer.step(4);
        Check.same("H itself", lab.get(Lab.H), 77);
        Check.same("L itself", lab.get(Lab.L), 88);
        Check.same("the byte by H itself", lab.peek(3001), 77);
        Check.same("the byte by L itself", lab.peek(3101), 88);
        Check.same("X", lab.get(Lab.X), 3000);
        lab = Lab.with(221, 235).setPair(Lab.D, 0x1234).setPair(Lab.H, 0x5678).set(Lab.X, 0x9ABC);
        lab.step();
        Check.same("DE", lab.pair(Lab.D), 0x5678);
        Check.same("HL", lab.pair(Lab.H), 0x1234);
        Check.same("X", lab.get(Lab.X), 0x9ABC);
        lab = Lab.with(253, 217).setPair(Lab.H, 0x5678).set(14, 0x11).set(15, 0x22).set(Lab.Y, 0x9ABC);
        lab.step();
        Check.same("HL with its second one", lab.pair(Lab.H), 0x1122);
        Check.same("Y", lab.get(Lab.Y), 0x9ABC);
        lab = Lab.with(221, 233).set(Lab.X, 0x9ABC).setPair(Lab.H, 0x5678);
        lab.step();
        Check.same("PC = X", lab.get(Lab.PC), 0x9ABC);
        lab = Lab.with(253, 249).set(Lab.Y, 0x9ABC).setPair(Lab.H, 0x5678);
        lab.step();
        Check.same("SP = Y", lab.get(Lab.SP), 0x9ABC);
        lab = Lab.with(221, 118, 60);
        Check.same("HALT behind a prefix reads no d", lab.step(), 8);
        Check.same("PC behind it", lab.get(Lab.PC), Lab.HOME + 2);
    }

    /** "with d (-128 .. 127) the next byte, read right behind the opcode" */
    private static void displacements() {
        int[][] cases = {{0, 3000}, {1, 3001}, {127, 3127}, {128, 2872}, {129, 2873}, {255, 2999}};
        for (int[] one : cases) {
            Lab lab = Lab.with(221, 54, one[0], 99).set(Lab.X, 3000);
            lab.step();
            Check.same("n goes to X + " + one[0], lab.peek(one[1]), 99);
            lab = Lab.with(253, 126, one[0]).set(Lab.Y, 3000).put(one[1], 66);
            lab.step();
            Check.same("A from Y + " + one[0], lab.get(Lab.A), 66);
            lab = Lab.with(221, 203, one[0], 254).set(Lab.X, 3000);
            lab.step();
            Check.same("bit 7 at X + " + one[0], lab.peek(one[1]), 128);
            lab = Lab.with(253, 182, one[0]).set(Lab.Y, 3000).put(one[1], 5);
            lab.step();
            Check.same("A or the byte at Y + " + one[0], lab.get(Lab.A), 5);
        }
    }

    /** "which for z other than 6 goes to r(z), too (H and L themselves); x 1: BIT y of it" */
    private static void rotationsBehindPrefixes() {
        int[] numbers = {Lab.B, Lab.C, Lab.D, Lab.E, Lab.H, Lab.L, -1, Lab.A};
        for (int x = 0; x < 4; x++) {
            for (int z = 0; z < 8; z++) {
                Lab lab = Lab.with(221, 203, 2, 64 * x + z).set(Lab.X, 3000).put(3002, 0x80);
                for (int k = 0; k < 8; k++) {
                    lab.set(k, 0x33);
                }
                int due = new int[] {1, 0x80, 0x80, 0x81}[x];
                Check.same("ticks of x " + x + ", z " + z, lab.step(), x == 1 ? 17 : 20);
                Check.same("the byte by x " + x + ", z " + z, lab.peek(3002), due);
                Check.same("R", lab.get(Lab.R), 2);
                for (int k = 0; k < 8; k++) {
                    if (k != Lab.F) {
                        Check.same("register " + k + " by x " + x + ", z " + z, lab.get(k),
                                numbers[z] == k && x != 1 ? due : 0x33);
                    }
                }
                Check.same("X", lab.get(Lab.X), 3000);
            }
        }
    }

    /** "for y 6 nothing gets it", "for y 6 = 0", "6, 7 nothing", "All others do nothing." */
    private static void placesOfNothing() {
        Lab lab = P10ArithmeticTest.numbered(237, 112).setPair(Lab.B, 0xFFFE);
        lab.step();
        Check.same("M by y 6", lab.peek(3333), 221);
        Check.same("flags by y 6", lab.get(Lab.F), S | Y | X | C);
        lab = Lab.with(211, 254, 237, 113).set(Lab.A, 23).setPair(Lab.B, 254).setPair(Lab.H, 3333).put(3333, 23);
        lab.computer.step(2);
        Check.same("the border by y 6", lab.computer.look(2), 0);
        Check.same("the edges by y 6", lab.computer.look(3), 2);
        for (int opcode : new int[] {0, 63, 119, 127, 128, 159, 162, 163, 164, 167, 170, 171, 178, 179, 186, 187, 188,
            191, 192, 203, 221, 237, 253, 255}) {
            lab = P10ArithmeticTest.numbered(237, opcode, 60);
            int[] due = new int[26];
            for (int k = 0; k < 26; k++) {
                due[k] = lab.get(k);
            }
            due[Lab.PC] += 2;
            due[Lab.R] += 2;
            Check.same("ticks of 237 " + opcode, lab.step(), 8);
            for (int k = 0; k < 26; k++) {
                Check.same("register " + k + " by 237 " + opcode, lab.get(k), due[k]);
            }
            Check.same("M by 237 " + opcode, lab.peek(3333), 221);
        }
    }
}
