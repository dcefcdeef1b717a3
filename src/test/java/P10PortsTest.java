/** Promise 10: the ports (keys: P07KeyTest, the tape's level: P09TapeTest, lines: P13StripeTest). */
final class P10PortsTest {
    public static void main(String[] args) {
        writingByNumber();
        writingByBc();
        readingByNumber();
        readingByBc();
        edges();
        Check.end();
    }

    private static void writingByNumber() {
        for (int a = 0; a < 256; a++) {
            for (int n : new int[] {0, 254, 1, 255}) {
                Lab lab = Lab.with(211, n).set(Lab.A, a).set(Lab.F, 255 - a);
                Check.same("ticks of port n = A", lab.step(), 11);
                Check.same("border by " + a, lab.computer.look(2), n % 2 == 0 ? a % 8 : 0);
                Check.same("edges by " + a, lab.computer.look(3), n % 2 == 0 ? a / 16 % 2 : 0);
                Check.same("flags", lab.get(Lab.F), 255 - a);
                Check.same("A", lab.get(Lab.A), a);
                Check.same("PC", lab.get(Lab.PC), Lab.HOME + 2);
            }
        }
    }

    private static void writingByBc() {
        for (int y = 0; y < 8; y++) {
            for (int port : new int[] {0x15FE, 0x1512, 0x15FF}) {
                Lab lab = P10ArithmeticTest.numbered(237, 65 + 8 * y).setPair(Lab.B, port).set(Lab.F, 199);
                lab.set(Lab.D, 0x11).set(Lab.E, 0x12).set(Lab.H, 0x13).set(Lab.L, 0x14).set(Lab.A, 0x17);
                int v = y == 6 ? 0 : lab.get(P10ArithmeticTest.numberOf(y));
                Check.same("ticks of port BC = r " + y, lab.step(), 12);
                Check.same("border by r " + y, lab.computer.look(2), port % 2 == 0 ? v % 8 : 0);
                Check.same("edges by r " + y, lab.computer.look(3), port % 2 == 0 ? v / 16 % 2 : 0);
                Check.same("flags", lab.get(Lab.F), 199);
            }
        }
    }

    private static void readingByNumber() {
        Lab lab = Lab.with(219, 254).set(Lab.A, 0xFD).set(Lab.F, 77);
        lab.computer.key(1, 3, true);
        Check.same("ticks of A = port n", lab.step(), 11);
        Check.same("row 1 by A as the high byte", lab.get(Lab.A), 191 - 8);
        Check.same("flags stay", lab.get(Lab.F), 77);
        lab = Lab.with(219, 0).set(Lab.A, 0xFE);
        lab.computer.key(1, 3, true);
        lab.step();
        Check.same("row 0", lab.get(Lab.A), 191);
        lab = Lab.with(219, 253).set(Lab.A, 0).set(Lab.F, 200);
        lab.computer.key(1, 3, true);
        Check.same("ticks of an odd port", lab.step(), 11);
        Check.same("an odd port", lab.get(Lab.A), 255);
        Check.same("flags stay", lab.get(Lab.F), 200);
    }

    private static void readingByBc() {
        for (int y = 0; y < 8; y++) {
            for (int keys = 0; keys < 32; keys++) {
                for (int odd = 0; odd < 2; odd++) {
                    Lab lab = P10ArithmeticTest.numbered(237, 64 + 8 * y).setPair(Lab.B, 0xF7FE + odd);
                    lab.set(Lab.F, 254 + keys % 2);
                    for (int k = 0; k < 5; k++) {
                        lab.computer.key(3, k, (keys >> k & 1) == 1);
                    }
                    int v = odd == 1 ? 255 : 191 - keys;
                    int[] due = new int[8];
                    for (int k = 0; k < 8; k++) {
                        due[k] = lab.get(k);
                    }
                    if (y != 6) {
                        due[P10ArithmeticTest.numberOf(y)] = v;
                    }
                    due[Lab.F] = Lab.by(v) + Lab.parity(v) + keys % 2;
                    Check.same("ticks of r " + y + " = port BC", lab.step(), 12);
                    for (int k = 0; k < 8; k++) {
                        Check.same("register " + k + " after r " + y + " = port BC = " + v, lab.get(k), due[k]);
                    }
                    Check.same("M after r " + y + " = port BC", lab.peek(3333), 221);
                }
            }
        }
    }

    private static void edges() {
        Lab lab = Lab.with(211, 254, 211, 254, 211, 254, 211, 255, 211, 254, 211, 0);
        int[] written = {16, 23, 7, 16, 8, 255};
        int[] edges = {1, 1, 2, 2, 2, 3};
        int[] border = {0, 7, 7, 7, 0, 7};
        for (int k = 0; k < written.length; k++) {
            lab.set(Lab.A, written[k]).step();
            Check.same("edges after write " + k, lab.computer.look(3), edges[k]);
            Check.same("border after write " + k, lab.computer.look(2), border[k]);
        }
    }
}
