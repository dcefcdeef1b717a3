/** Promise 10: what moves bytes and pairs about without changing flags. */
final class P10LoadsTest {
    public static void main(String[] args) {
        registersAndM();
        numbers();
        pairs();
        indirect();
        exchanges();
        stack();
        memoryThatKeepsItsBytes();
        wrapping();
        Check.end();
    }

    /** Runs the one instruction and sees that only the named registers have changed, and PC, R. */
    private static void expect(String name, Lab lab, int ticks, int length, int... registersAndValues) {
        int[] due = new int[26];
        for (int k = 0; k < 26; k++) {
            due[k] = lab.get(k);
        }
        due[Lab.PC] += length;
        due[Lab.R] += 1;
        for (int k = 0; k < registersAndValues.length; k += 2) {
            due[registersAndValues[k]] = registersAndValues[k + 1];
        }
        Check.same("ticks of " + name, lab.step(), ticks);
        for (int k = 0; k < 26; k++) {
            Check.same("register " + k + " after " + name, lab.get(k), due[k]);
        }
    }

    private static Lab numbered(int... code) {
        return P10ArithmeticTest.numbered(code);
    }

    private static void registersAndM() {
        for (int y = 0; y < 8; y++) {
            for (int z = 0; z < 8; z++) {
                if (y == 6 && z == 6) {
                    continue;
                }
                String name = "r " + y + " = r " + z;
                Lab lab = numbered(64 + 8 * y + z);
                int v = P10ArithmeticTest.valueOf(lab, z);
                if (y == 6) {
                    expect(name, lab, 7, 1);
                    Check.same(name, lab.peek(3333), v);
                } else {
                    expect(name, lab, z == 6 ? 7 : 4, 1, P10ArithmeticTest.numberOf(y), v);
                    Check.same("M after " + name, lab.peek(3333), 221);
                }
            }
        }
    }

    private static void numbers() {
        for (int y = 0; y < 8; y++) {
            Lab lab = numbered(6 + 8 * y, 201);
            if (y == 6) {
                expect("M = n", lab, 10, 2);
                Check.same("M = n", lab.peek(3333), 201);
            } else {
                expect("r " + y + " = n", lab, 7, 2, P10ArithmeticTest.numberOf(y), 201);
            }
        }
        Lab lab = numbered(0);
        expect("nothing", lab, 4, 1);
    }

    private static void pairs() {
        for (int p = 0; p < 3; p++) {
            int high = Lab.B + 2 * p;
            expect("w " + p + " = nn", numbered(1 + 16 * p, 0x34, 0x92), 10, 3, high, 0x92, high + 1, 0x34);
        }
        expect("SP = nn", numbered(49, 0x34, 0x92), 10, 3, Lab.SP, 0x9234);
        expect("SP = HL", numbered(249), 4, 1, Lab.SP, 3333);
        expect("PC = HL", numbered(233), 4, 1, Lab.PC, 3333);
        for (int p = 0; p < 4; p++) {
            Lab lab = numbered(237, 67 + 16 * p, 0x10, 0x9C).set(Lab.SP, 0xABCD);
            int v = p == 3 ? 0xABCD : lab.pair(Lab.B + 2 * p);
            expect("(nn) = w " + p, lab, 20, 4, Lab.R, 2);
            Check.same("low byte of w " + p, lab.peek(0xC10), v & 255);
            Check.same("high byte of w " + p, lab.peek(0xC11), v >> 8);
            lab = numbered(237, 75 + 16 * p, 0x10, 0x9C).put(0xC10, 0x77, 0xEE);
            if (p == 3) {
                expect("SP = (nn)", lab, 20, 4, Lab.R, 2, Lab.SP, 0xEE77);
            } else {
                int high = Lab.B + 2 * p;
                expect("w " + p + " = (nn)", lab, 20, 4, Lab.R, 2, high, 0xEE, high + 1, 0x77);
            }
        }
    }

    private static void indirect() {
        for (int p = 0; p < 2; p++) {
            Lab lab = numbered(2 + 16 * p).setPair(Lab.B + 2 * p, 0xF999);
            int a = lab.get(Lab.A);
            expect("(w " + p + ") = A", lab, 7, 1);
            Check.same("(w " + p + ")", lab.peek(0x999), a);
            lab = numbered(10 + 16 * p).setPair(Lab.B + 2 * p, 0xF999).put(0x999, 207);
            expect("A = (w " + p + ")", lab, 7, 1, Lab.A, 207);
        }
        Lab lab = numbered(34, 0x98, 0x19);
        expect("(nn) = HL", lab, 16, 3);
        Check.same("(nn) = HL", lab.peek(0x998) + 256 * lab.peek(0x999), 3333);
        lab = numbered(42, 0x98, 0x19).put(0x998, 0x66, 0xDD);
        expect("HL = (nn)", lab, 16, 3, Lab.H, 0xDD, Lab.L, 0x66);
        lab = numbered(50, 0x98, 0x19);
        int a = lab.get(Lab.A);
        expect("(nn) = A", lab, 13, 3);
        Check.same("(nn) = A", lab.peek(0x998), a);
        Check.same("the byte behind", lab.peek(0x999), 0);
        lab = numbered(58, 0x98, 0x19).put(0x998, 0x66);
        expect("A = (nn)", lab, 13, 3, Lab.A, 0x66);
    }

    private static void exchanges() {
        Lab lab = numbered(8);
        expect("A F exchanged", lab, 4, 1, 0, lab.get(8), 1, lab.get(9), 8, lab.get(0), 9, lab.get(1));
        lab = numbered(217);
        int[] due = new int[24];
        for (int k = 0; k < 6; k++) {
            due[4 * k] = 2 + k;
            due[4 * k + 1] = lab.get(10 + k);
            due[4 * k + 2] = 10 + k;
            due[4 * k + 3] = lab.get(2 + k);
        }
        expect("BC DE HL exchanged", lab, 4, 1, due);
        lab = numbered(235);
        expect("DE HL exchanged", lab, 4, 1, Lab.D, lab.get(Lab.H), Lab.E, lab.get(Lab.L),
                Lab.H, lab.get(Lab.D), Lab.L, lab.get(Lab.E));
        lab = numbered(227).put(4000, 0x12, 0xFE);
        expect("HL and the top exchanged", lab, 16, 1, Lab.H, 0xFE, Lab.L, 0x12);
        Check.same("the top", lab.peek(4000) + 256 * lab.peek(4001), 3333);
    }

    private static void stack() {
        for (int p = 0; p < 4; p++) {
            int high = p == 3 ? Lab.A : Lab.B + 2 * p;
            Lab lab = numbered(197 + 16 * p).put(4000, 9);
            int v = lab.pair(high);
            expect("PUSH w " + p, lab, 10, 1, Lab.SP, 3998);
            Check.same("pushed high byte", lab.peek(3999), v >> 8);
            Check.same("pushed low byte", lab.peek(3998), v & 255);
            Check.same("what was the top", lab.peek(4000), 9);
            lab = numbered(193 + 16 * p).put(4000, 0x5A, 0xC3);
            expect("POP w " + p, lab, 10, 1, Lab.SP, 4002, high, 0xC3, high + 1, 0x5A);
        }
    }

    private static void memoryThatKeepsItsBytes() {
        for (int address : new int[] {0, 1, 1022, 1023, 4096, 4096 + 1023, 61440}) {
            Lab lab = numbered(119, 50, address & 255, address >> 8, 54, 8, 53, 203, 198);
            lab.put(address, 55).setPair(Lab.H, address);
            lab.computer.step(5);
            Check.same("kept at " + address, lab.peek(address), 55);
        }
        for (int address : new int[] {1024, 1025, 2047, 2048, 4095, 4096 + 1024}) {
            Lab lab = numbered().put(3000, 119).set(Lab.PC, 3000);
            lab.put(address, 55).setPair(Lab.H, address).set(Lab.A, 66);
            lab.step();
            Check.same("written at " + address, lab.peek(address), 66);
        }
        Lab lab = numbered(197).set(Lab.SP, 1025).put(1023, 55).setPair(Lab.B, 0xA1B2);
        lab.step();
        Check.same("high byte pushed at 1024", lab.peek(1024), 0xA1);
        Check.same("low byte not pushed at 1023", lab.peek(1023), 55);
        Check.same("SP fell all the same", lab.get(Lab.SP), 1023);
    }

    private static void wrapping() {
        Lab lab = numbered(197).set(Lab.SP, 1);
        lab.step();
        Check.same("SP falls below 0", lab.get(Lab.SP), 65535);
        Check.same("the byte at 65535", lab.peek(4095), lab.get(Lab.C));
        lab = numbered(193).set(Lab.SP, 65535).put(4095, 0x11).put(0, 0x22);
        lab.step();
        Check.same("SP grows beyond 65535", lab.get(Lab.SP), 1);
        Check.same("popped over the edge", lab.pair(Lab.B), 0x2211);
        lab = numbered(42, 255, 255).put(4095, 0x33).put(0, 0x44);
        lab.step();
        Check.same("HL over the edge", lab.pair(Lab.H), 0x4433);
        lab = numbered().put(4094, 1, 0x55).put(0, 0x66).set(Lab.PC, 65534);
        lab.step();
        Check.same("nn over the edge", lab.pair(Lab.B), 0x6655);
        Check.same("PC over the edge", lab.get(Lab.PC), 1);
        lab = numbered(195, 0x10, 0xFF).put(0xF10, 60);
        lab.computer.step(2);
        Check.same("PC keeps its 16 bits", lab.get(Lab.PC), 0xFF11);
    }
}
