/** Promise 10: the ROTATIONS, without a prefix and behind one. */
final class P10RotationsTest {
    public static void main(String[] args) {
        for (int opcode = 0; opcode < 256; opcode++) {
            for (int v = 0; v < 256; v++) {
                plain(opcode, v, v * 37 + opcode & 255);
                plain(opcode, v, v * 37 + opcode & 255 ^ 1);
            }
            for (int v : new int[] {0, 1, 127, 128, 129, 255, 40, 0x5A}) {
                prefixed(opcode, v, v * 37 + opcode & 255);
                prefixed(opcode, v, v * 37 + opcode & 255 ^ 1);
            }
        }
        placesBehindPrefixes();
        memoryThatKeepsItsBytes();
        Check.end();
    }

    /** The byte * 256 + F, from the words of the document. */
    private static int turned(int opcode, int v, int f) {
        int y = opcode / 8 % 8;
        int power = 1 << y;
        boolean isSet = v / power % 2 == 1;
        switch (opcode / 64) {
            case 0:
                return rolled(y, v, f % 2);
            case 1:
                int flags = isSet ? y == 7 ? 128 : 0 : 68;
                return v * 256 + flags + (v & 40) + 16 + f % 2;
            case 2:
                return (isSet ? v - power : v) * 256 + f;
            default:
                return (isSet ? v : v + power) * 256 + f;
        }
    }

    private static int rolled(int y, int v, int c) {
        int high = v / 128;
        int low = v % 2;
        int left = v * 2 % 256;
        int right = v / 2;
        int[] results = {left + high, right + 128 * low, left + c, right + 128 * c,
            left, right + 128 * high, left + 1, right};
        int r = results[y];
        return r * 256 + Lab.by(r) + Lab.parity(r) + (y % 2 == 0 ? high : low);
    }

    private static void plain(int opcode, int v, int f) {
        int z = opcode % 8;
        Lab lab = Lab.with(203, opcode).setPair(Lab.H, 3333).set(Lab.F, f);
        if (z == 6) {
            lab.put(3333, v);
        } else {
            lab.set(P10ArithmeticTest.numberOf(z), v);
        }
        int due = turned(opcode, v, f);
        int ticks = z != 6 ? 8 : opcode / 64 == 1 ? 11 : 14;
        String name = "203 " + opcode + " of " + v + ", F = " + f;
        Check.same("ticks of " + name, lab.step(), ticks);
        int got = z == 6 ? lab.peek(3333) : lab.get(P10ArithmeticTest.numberOf(z));
        Check.same(name, got, due >> 8);
        Check.same("flags of " + name, lab.get(Lab.F), due & 255);
        Check.same("R after " + name, lab.get(Lab.R), 2);
        Check.same("PC after " + name, lab.get(Lab.PC), Lab.HOME + 2);
    }

    private static void prefixed(int opcode, int v, int f) {
        int z = opcode % 8;
        boolean y = (opcode & 1) == 1;
        int d = opcode % 2 == 0 ? 5 : -6;
        Lab lab = P10ArithmeticTest.numbered(y ? 253 : 221, 203, d, opcode).set(Lab.F, f);
        lab.put((lab.get(y ? Lab.Y : Lab.X) + d), v);
        int[] registers = new int[26];
        for (int k = 0; k < 26; k++) {
            registers[k] = lab.get(k);
        }
        int due = turned(opcode, v, f);
        registers[Lab.F] = due & 255;
        registers[Lab.PC] += 4;
        registers[Lab.R] = 2;
        if (z != 6 && opcode / 64 != 1) {
            registers[P10ArithmeticTest.numberOf(z)] = due >> 8;
        }
        String name = "prefix " + (y ? "Y" : "X") + " 203 " + opcode + " of " + v + ", F = " + f;
        Check.same("ticks of " + name, lab.step(), opcode / 64 == 1 ? 17 : 20);
        Check.same(name, lab.peek(registers[y ? Lab.Y : Lab.X] + d), due >> 8);
        Check.same("M after " + name, lab.peek(3333), 221);
        for (int k = 0; k < 26; k++) {
            Check.same("register " + k + " after " + name, lab.get(k), registers[k]);
        }
    }

    private static void placesBehindPrefixes() {
        for (int d : new int[] {-128, -1, 0, 1, 127}) {
            for (int x : new int[] {3000, 1100, 65535 - 200, 3900, 0xAC80}) {
                Lab lab = Lab.with(221, 203, d, 254).set(Lab.X, x);
                lab.step();
                Check.same("bit 7 at " + x + " + " + d, lab.peek(x + d), (x + d & 4095) < 1024 ? 0 : 128);
            }
        }
        Lab lab = Lab.with(221, 203, 128, 254).set(Lab.X, 10);
        lab.step();
        Check.same("the place wraps", lab.peek(65536 + 10 - 128), 128);
    }

    private static void memoryThatKeepsItsBytes() {
        Lab lab = Lab.with(221, 203, 3, 192).set(Lab.X, 500).put(503, 16);
        lab.step();
        Check.same("the byte is kept", lab.peek(503), 16);
        Check.same("the register gets the result", lab.get(Lab.B), 17);
    }
}
