/** Promise 10: the MORE, but for sums of pairs (P10ArithmeticTest), pairs in memory (P10LoadsTest) and ports. */
final class P10MoreTest {
    public static void main(String[] args) {
        othersDoNothing();
        returnsWithIff();
        modes();
        interruptAndRefresh();
        twelveBits();
        moves();
        looks();
        repeats();
        Check.end();
    }

    private static boolean does(int opcode) {
        int y = opcode / 8 % 8;
        int z = opcode % 8;
        switch (opcode / 64) {
            case 1:
                return z != 7 || y < 6;
            case 2:
                return y >= 4 && z < 2;
            default:
                return false;
        }
    }

    private static void othersDoNothing() {
        for (int opcode = 0; opcode < 256; opcode++) {
            if (does(opcode)) {
                continue;
            }
            Lab lab = P10ArithmeticTest.numbered(237, opcode, 1, 2, 3).set(Lab.R, 7);
            lab.set(Lab.PC, Lab.HOME + 2);
            String before = lab.state();
            lab.set(Lab.PC, Lab.HOME).set(Lab.R, 5);
            Check.same("ticks of 237 " + opcode, lab.step(), 8);
            String timeless = lab.state().replace(" 0 8 0 0 0 0 0 ", " 0 0 0 0 0 0 0 ");
            Check.same("state after 237 " + opcode, timeless, before);
        }
    }

    private static void returnsWithIff() {
        for (int opcode = 69; opcode < 128; opcode += 8) {
            for (int iff = 0; iff < 4; iff++) {
                Lab lab = Lab.with(237, opcode).put(4000, 0x21, 0x93);
                lab.waitUntil(40).set(Lab.IFF1, iff & 1).set(Lab.IFF2, iff >> 1);
                Check.same("ticks of 237 " + opcode, lab.step(), 14);
                Check.same("PC", lab.get(Lab.PC), 0x9321);
                Check.same("SP", lab.get(Lab.SP), 4002);
                Check.same("IFF1 is what IFF2 is", lab.get(Lab.IFF1), iff >> 1);
                Check.same("IFF2 stays", lab.get(Lab.IFF2), iff >> 1);
            }
        }
    }

    private static void modes() {
        int[] due = {0, 0, 1, 2, 0, 0, 1, 2};
        for (int y = 0; y < 8; y++) {
            for (int before = 0; before < 3; before++) {
                Lab lab = Lab.with(237, 70 + 8 * y).set(Lab.MODE, before);
                Check.same("ticks of MODE", lab.step(), 8);
                Check.same("mode by y = " + y, lab.get(Lab.MODE), due[y]);
            }
        }
    }

    private static void interruptAndRefresh() {
        for (int v = 0; v < 256; v++) {
            Lab lab = Lab.with(237, 71, 237, 79).set(Lab.A, v).set(Lab.F, v);
            Check.same("ticks of I = A", lab.step(), 8);
            Check.same("I = A", lab.get(Lab.I), v);
            Check.same("ticks of R = A", lab.step(), 8);
            Check.same("R = A", lab.get(Lab.R), v);
            Check.same("flags stay", lab.get(Lab.F), v);
            for (int f : new int[] {0, 255}) {
                for (int iff2 = 0; iff2 < 2; iff2++) {
                    lab = Lab.with(237, 87).set(Lab.I, v).set(Lab.F, f).set(Lab.IFF2, iff2);
                    Check.same("ticks of A = I", lab.step(), 8);
                    Check.same("A = I", lab.get(Lab.A), v);
                    Check.same("flags of A = I", lab.get(Lab.F), Lab.by(v) + 4 * iff2 + f % 2);
                    lab = Lab.with(237, 95).set(Lab.R, v).set(Lab.F, f).set(Lab.IFF2, iff2);
                    int r = v / 128 * 128 + (v + 2) % 128;
                    Check.same("ticks of A = R", lab.step(), 8);
                    Check.same("A = R", lab.get(Lab.A), r);
                    Check.same("flags of A = R", lab.get(Lab.F), Lab.by(r) + 4 * iff2 + f % 2);
                }
            }
        }
    }

    private static void twelveBits() {
        for (int v = 0; v < 256; v++) {
            for (int a = v % 16; a < 256; a += 7) {
                for (int left = 0; left < 2; left++) {
                    int f = a * 5 + v & 255;
                    Lab lab = Lab.with(237, 103 + 8 * left).setPair(Lab.H, 3333).put(3333, v);
                    lab.set(Lab.A, a).set(Lab.F, f);
                    int dueA = a / 16 * 16 + (left == 1 ? v / 16 : v % 16);
                    int dueM = left == 1 ? v % 16 * 16 + a % 16 : a % 16 * 16 + v / 16;
                    String name = "twelve bits, left " + left + ", A = " + a + ", M = " + v;
                    Check.same("ticks of " + name, lab.step(), 14);
                    Check.same("A of " + name, lab.get(Lab.A), dueA);
                    Check.same("M of " + name, lab.peek(3333), dueM);
                    Check.same("flags of " + name, lab.get(Lab.F), Lab.by(dueA) + Lab.parity(dueA) + f % 2);
                }
            }
        }
        Lab lab = Lab.with(237, 103).setPair(Lab.H, 1000).put(1000, 0x12).set(Lab.A, 0x34);
        lab.step();
        Check.same("A from a byte that is kept", lab.get(Lab.A), 0x32);
        Check.same("the byte that is kept", lab.peek(1000), 0x12);
    }

    private static Lab block(int y, int z, int bc, int a, int v, int f) {
        Lab lab = Lab.with(237, 128 + 8 * y + z).setPair(Lab.B, bc).setPair(Lab.D, 3500).setPair(Lab.H, 3333);
        return lab.put(3333, v).set(Lab.A, a).set(Lab.F, f);
    }

    private static void moves() {
        for (int y = 4; y < 8; y++) {
            for (int bc : new int[] {1, 2, 0, 256, 65535}) {
                for (int k = 0; k < 256; k++) {
                    int a = k * 29 & 255;
                    int f = k * 7 & 255;
                    Lab lab = block(y, 0, bc, a, k, f);
                    int by = y % 2 == 0 ? 1 : -1;
                    int t = a + k;
                    int left = bc - 1 & 65535;
                    int due = f & 193 | (left != 0 ? 4 : 0) | (t & 2) * 16 | t & 8;
                    String name = "MOVE " + y + " of " + k + ", A = " + a + ", BC = " + bc;
                    Check.same("ticks of " + name, lab.step(), 14);
                    Check.same("byte of " + name, lab.peek(3500), k);
                    Check.same("HL of " + name, lab.pair(Lab.H), 3333 + by);
                    Check.same("DE of " + name, lab.pair(Lab.D), 3500 + by);
                    Check.same("BC of " + name, lab.pair(Lab.B), left);
                    Check.same("A of " + name, lab.get(Lab.A), a);
                    Check.same("flags of " + name, lab.get(Lab.F), due);
                    Check.same("PC of " + name, lab.get(Lab.PC), y >= 6 && left != 0 ? Lab.HOME : Lab.HOME + 2);
                }
            }
        }
    }

    private static void looks() {
        for (int y = 4; y < 8; y++) {
            for (int bc : new int[] {1, 2, 0}) {
                for (int k = 0; k < 1024; k++) {
                    int v = k & 255;
                    int a = k < 256 ? v : k * 29 >> 2 & 255;
                    int f = k * 7 & 255;
                    Lab lab = block(y, 1, bc, a, v, f);
                    int by = y % 2 == 0 ? 1 : -1;
                    int t = a - v & 255;
                    int h = a % 16 < v % 16 ? 1 : 0;
                    int less = t - h;
                    int left = bc - 1 & 65535;
                    int due = f & 1 | t & 128 | (t == 0 ? 64 : 0) | (less & 2) * 16 | h * 16 | less & 8
                            | (left != 0 ? 4 : 0) | 2;
                    String name = "LOOK " + y + " at " + v + ", A = " + a + ", BC = " + bc;
                    Check.same("ticks of " + name, lab.step(), 11);
                    Check.same("HL of " + name, lab.pair(Lab.H), 3333 + by);
                    Check.same("DE of " + name, lab.pair(Lab.D), 3500);
                    Check.same("BC of " + name, lab.pair(Lab.B), left);
                    Check.same("A of " + name, lab.get(Lab.A), a);
                    Check.same("flags of " + name, lab.get(Lab.F), due);
                    boolean again = y >= 6 && left != 0 && t != 0;
                    Check.same("PC of " + name, lab.get(Lab.PC), again ? Lab.HOME : Lab.HOME + 2);
                }
            }
        }
    }

    private static void repeats() {
        Lab lab = Lab.with(237, 176).setPair(Lab.B, 5).setPair(Lab.D, 3002).setPair(Lab.H, 3000);
        lab.put(3000, 1, 2, 3, 4, 5);
        Check.same("ticks of five moves", lab.computer.step(5), 70);
        Check.same("PC behind five moves", lab.get(Lab.PC), Lab.HOME + 2);
        int[] due = {1, 2, 1, 2, 1, 2, 1, 0};
        for (int k = 0; k < due.length; k++) {
            Check.same("byte " + k, lab.peek(3000 + k), due[k]);
        }
        Check.same("R of five moves", lab.get(Lab.R), 10);
        lab = Lab.with(237, 185).setPair(Lab.B, 100).setPair(Lab.H, 3010).set(Lab.A, 9).put(3007, 9);
        Check.same("ticks of four looks", lab.computer.step(4), 44);
        Check.same("PC behind the byte found", lab.get(Lab.PC), Lab.HOME + 2);
        Check.same("BC behind the byte found", lab.pair(Lab.B), 96);
        lab = Lab.with(237, 184).setPair(Lab.B, 1).setPair(Lab.H, 65535).setPair(Lab.D, 0);
        lab.step();
        Check.same("HL wraps downwards of 65535", lab.pair(Lab.H), 65534);
        lab = Lab.with(237, 160).setPair(Lab.B, 0).setPair(Lab.H, 65535).setPair(Lab.D, 65535).put(4095, 3);
        lab.step();
        Check.same("HL wraps", lab.pair(Lab.H), 0);
        Check.same("DE wraps", lab.pair(Lab.D), 0);
        Check.same("BC wraps", lab.pair(Lab.B), 65535);
        lab = Lab.with(237, 160).setPair(Lab.H, 3000).setPair(Lab.D, 1023).put(3000, 5).put(1023, 6);
        lab.step();
        Check.same("a byte that is kept", lab.peek(1023), 6);
    }
}
