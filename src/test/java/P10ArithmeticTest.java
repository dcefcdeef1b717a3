import java.util.Random;

/** Promise 10: OPS, INC, DEC, what changes A alone, and sums of pairs. */
final class P10ArithmeticTest {
    public static void main(String[] args) {
        for (int y = 0; y < 8; y++) {
            allOps(y);
            operandsOf(y);
        }
        for (int k = 0; k < 8; k++) {
            incAndDec(k);
        }
        for (int y = 0; y < 8; y++) {
            changesOfA(y);
        }
        negations();
        sumsOfPairs();
        pairsUpAndDown();
        Check.end();
    }

    private static int signed(int v, int bits) {
        return v >= 1 << bits - 1 ? v - (1 << bits) : v;
    }

    /** A and F after an OP, as A * 256 + F, from the words of the document. */
    static int op(int y, int a, int v, int carry) {
        int c = y == 1 || y == 3 ? carry : 0;
        if (y >= 4 && y <= 6) {
            int r = y == 4 ? a & v : y == 5 ? a ^ v : a | v;
            return r * 256 + Lab.by(r) + Lab.parity(r) + (y == 4 ? 16 : 0);
        }
        int sign = y < 2 ? 1 : -1;
        int exact = a + sign * (v + c);
        int r = exact & 255;
        int half = a % 16 + sign * (v % 16 + c);
        int whole = signed(a, 8) + sign * (signed(v, 8) + c);
        int f = Lab.by(r);
        if (y == 7) {
            f = f & 192 | v & 40;
        }
        f += half < 0 || half > 15 ? 16 : 0;
        f += whole < -128 || whole > 127 ? 4 : 0;
        f += sign < 0 ? 2 : 0;
        f += exact < 0 || exact > 255 ? 1 : 0;
        return (y == 7 ? a : r) * 256 + f;
    }

    private static void allOps(int y) {
        for (int group = 0; group < 2 * 256 * 4; group++) {
            int carry = group & 1;
            int a = group >> 1 & 255;
            Lab lab = Lab.with(198 + 8 * y);
            for (int v = group >> 9 << 6; v < (group >> 9) + 1 << 6; v++) {
                lab.computer.poke(Lab.HOME + 1, v);
                lab.computer.set(Lab.A, a);
                lab.computer.set(Lab.F, (a * 6 + v * 10 & 254) + carry);
                lab.computer.set(Lab.PC, Lab.HOME);
                lab.step();
                Check.same("OP " + y + " of " + a + " and " + v + " with carry " + carry,
                        lab.pair(Lab.A), op(y, a, v, carry));
            }
        }
    }

    private static void operandsOf(int y) {
        for (int z = 0; z < 8; z++) {
            Lab lab = numbered(128 + 8 * y + z);
            int due = op(y, lab.get(Lab.A), valueOf(lab, z), 1);
            Check.same("ticks of OP " + y + " of r " + z, lab.step(), z == 6 ? 7 : 4);
            Check.same("OP " + y + " of r " + z, lab.pair(Lab.A), due);
        }
        Lab lab = numbered(198 + 8 * y, 99);
        int due = op(y, lab.get(Lab.A), 99, 1);
        Check.same("ticks of OP " + y + " of n", lab.step(), 7);
        Check.same("OP " + y + " of n", lab.pair(Lab.A), due);
        Check.same("PC behind OP " + y + " of n", lab.get(Lab.PC), Lab.HOME + 2);
    }

    /** A program with another number in every register, and HL at a byte. */
    static Lab numbered(int... code) {
        Lab lab = Lab.with(code);
        for (int k = 0; k < 16; k++) {
            lab.set(k, 17 + 13 * k);
        }
        lab.set(Lab.F, 255).setPair(Lab.H, 3333).put(3333, 221);
        return lab.set(Lab.X, 0x9ABC).set(Lab.Y, 0x8DEF);
    }

    /** The number of the register that is r(k), with M left out. */
    static int numberOf(int k) {
        return k == 7 ? Lab.A : Lab.B + k;
    }

    static int valueOf(Lab lab, int k) {
        return k == 6 ? lab.peek(lab.pair(Lab.H)) : lab.get(numberOf(k));
    }

    private static void incAndDec(int k) {
        for (int v = 0; v < 256; v++) {
            for (int f : new int[] {0, 1, 254, 255}) {
                for (int down = 0; down < 2; down++) {
                    Lab lab = Lab.with(4 + 8 * k + down).setPair(Lab.H, 3333).set(Lab.F, f);
                    if (k == 6) {
                        lab.put(3333, v);
                    } else {
                        lab.set(numberOf(k), v);
                    }
                    int due = op(2 * down, v, 1, 0);
                    String name = (down == 1 ? "DEC" : "INC") + " of r " + k + " = " + v;
                    Check.same("ticks of " + name, lab.step(), k == 6 ? 10 : 4);
                    int got = k == 6 ? lab.peek(3333) : lab.get(numberOf(k));
                    Check.same(name, got, due >> 8);
                    Check.same("flags of " + name, lab.get(Lab.F), due & 254 | f & 1);
                }
            }
        }
    }

    /** A * 256 + F after an instruction of x 0, z 7, from the words of the document. */
    private static int changed(int y, int a, int f) {
        int c = f & 1;
        int stays = f & 196;
        int r;
        switch (y) {
            case 0:
                r = a * 2 % 256 + a / 128;
                return r * 256 + stays + (r & 40) + a / 128;
            case 1:
                r = a / 2 + a % 2 * 128;
                return r * 256 + stays + (r & 40) + a % 2;
            case 2:
                r = a * 2 % 256 + c;
                return r * 256 + stays + (r & 40) + a / 128;
            case 3:
                r = a / 2 + c * 128;
                return r * 256 + stays + (r & 40) + a % 2;
            case 4:
                return adjusted(a, f);
            case 5:
                r = 255 - a;
                return r * 256 + stays + c + 18 + (r & 40);
            case 6:
                return a * 256 + stays + 1 + (a & 40);
            default:
                return a * 256 + stays + (c == 1 ? 16 : 1) + (a & 40);
        }
    }

    private static int adjusted(int a, int f) {
        int d = 0;
        int c = 0;
        if ((f & 16) != 0 || a % 16 > 9) {
            d = 6;
        }
        if ((f & 1) != 0 || a > 153) {
            d += 96;
            c = 1;
        }
        int r = ((f & 2) != 0 ? a - d : a + d) & 255;
        int h = (r & 16) != (a & 16) ? 16 : 0;
        return r * 256 + Lab.by(r) + Lab.parity(r) + h + (f & 2) + c;
    }

    private static void changesOfA(int y) {
        for (int group = 0; group < 1024; group++) {
            int a = group >> 2;
            Lab lab = Lab.with(7 + 8 * y);
            for (int f = (group & 3) << 6; f < (group & 3) + 1 << 6; f++) {
                lab.computer.set(Lab.A, a);
                lab.computer.set(Lab.F, f);
                lab.computer.set(Lab.PC, Lab.HOME);
                Check.same("ticks of z 7, y " + y, lab.step(), 4);
                Check.same("z 7, y " + y + " of A = " + a + ", F = " + f, lab.pair(Lab.A), changed(y, a, f));
            }
        }
    }

    private static void negations() {
        for (int opcode = 68; opcode < 128; opcode += 8) {
            for (int a = 0; a < 256; a++) {
                Lab lab = Lab.with(237, opcode).set(Lab.A, a).set(Lab.F, 255 - a);
                Check.same("ticks of 0 - A", lab.step(), 8);
                Check.same("0 - " + a, lab.pair(Lab.A), op(2, 0, a, 0));
            }
        }
    }

    private static void sumsOfPairs() {
        Random random = new Random(5);
        int[] edges = {0, 1, 0x0FFF, 0x1000, 0x7FFF, 0x8000, 0xFFFF, 0x2800, 0x00FF};
        for (int k = 0; k < 6000; k++) {
            int hl = k < 81 ? edges[k % 9] : random.nextInt(65536);
            int w = k < 81 ? edges[k / 9] : random.nextInt(65536);
            int p = k < 81 ? 3 : random.nextInt(4);
            int f = k < 81 ? 255 * (k & 1) : random.nextInt(256);
            for (int kind = 0; kind < 3; kind++) {
                sumOfPair(kind, p, hl, w, f);
            }
            sumOfPair(1, p, hl, w, f ^ 1);
            sumOfPair(2, p, hl, w, f ^ 1);
        }
    }

    /** Kind 0: HL + w; 1: HL + w + C; 2: HL - w - C. */
    private static void sumOfPair(int kind, int p, int hl, int value, int f) {
        int w = p == 2 ? hl : value;
        Lab lab = kind == 0 ? Lab.with(9 + 16 * p) : Lab.with(237, (kind == 1 ? 74 : 66) + 16 * p);
        if (p == 3) {
            lab.set(Lab.SP, w);
        } else {
            lab.setPair(Lab.B + 2 * p, w);
        }
        lab.setPair(Lab.H, hl).set(Lab.F, f);
        int sign = kind == 2 ? -1 : 1;
        int c = kind == 0 ? 0 : f & 1;
        int exact = hl + sign * (w + c);
        int r = exact & 65535;
        int half = hl % 4096 + sign * (w % 4096 + c);
        int whole = signed(hl, 16) + sign * (signed(w, 16) + c);
        int due = (r >> 8 & 40) + (half < 0 || half > 4095 ? 16 : 0) + (exact < 0 || exact > 65535 ? 1 : 0);
        if (kind == 0) {
            due += f & 196;
        } else {
            due += (r >> 8 & 128) + (r == 0 ? 64 : 0) + (whole < -32768 || whole > 32767 ? 4 : 0);
            due += kind == 2 ? 2 : 0;
        }
        String name = "kind " + kind + " of HL = " + hl + " and w " + p + " = " + w + ", F = " + f;
        Check.same("ticks of " + name, lab.step(), kind == 0 ? 4 : 8);
        Check.same(name, lab.pair(Lab.H), r);
        Check.same("flags of " + name, lab.get(Lab.F), due);
    }

    private static void pairsUpAndDown() {
        for (int p = 0; p < 4; p++) {
            for (int v : new int[] {0, 1, 255, 256, 32767, 65535}) {
                for (int f : new int[] {0, 255}) {
                    Lab lab = Lab.with(3 + 16 * p, 11 + 16 * p, 11 + 16 * p).set(Lab.F, f);
                    int[] due = {v + 1 & 65535, v, v - 1 & 65535};
                    if (p == 3) {
                        lab.set(Lab.SP, v);
                    } else {
                        lab.setPair(Lab.B + 2 * p, v);
                    }
                    for (int k = 0; k < 3; k++) {
                        Check.same("ticks", lab.step(), 4);
                        int got = p == 3 ? lab.get(Lab.SP) : lab.pair(Lab.B + 2 * p);
                        Check.same("w " + p + " from " + v + ", step " + k, got, due[k]);
                        Check.same("flags stay", lab.get(Lab.F), f);
                    }
                }
            }
        }
    }
}
