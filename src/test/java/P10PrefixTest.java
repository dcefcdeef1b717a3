/** Promise 10: the prefixes X and Y (with 203 behind: P10RotationsTest). */
final class P10PrefixTest {
    public static void main(String[] args) {
        for (int prefix : new int[] {221, 253}) {
            for (int opcode = 0; opcode < 256; opcode++) {
                boolean special = opcode == 203 || opcode == 221 || opcode == 237 || opcode == 253;
                if (!special && !hasM(opcode)) {
                    withoutM(prefix, opcode);
                }
            }
            bytesAtXPlusD(prefix);
            theMoreBehindIt(prefix);
        }
        theLastPrefixCounts();
        fourPrefixes();
        Check.end();
    }

    private static boolean hasM(int opcode) {
        boolean middle = opcode >= 64 && opcode < 128 && opcode != 118 && (opcode / 8 == 14 || opcode % 8 == 6);
        boolean op = opcode >= 128 && opcode < 192 && opcode % 8 == 6;
        return middle || op || opcode == 52 || opcode == 53 || opcode == 54;
    }

    private static int indexOf(int prefix) {
        return prefix == 221 ? Lab.X : Lab.Y;
    }

    /** The same as without the prefix on a computer whose HL is X, with 4 ticks and a fetch more. */
    private static void withoutM(int prefix, int opcode) {
        int index = indexOf(prefix);
        boolean asWithout = opcode == 235 || opcode == 217;
        Lab lab = prepared();
        lab.put(Lab.HOME - 1, prefix, opcode, 0x96, 0x1A).set(Lab.PC, Lab.HOME - 1);
        Lab twin = prepared();
        twin.put(Lab.HOME - 1, prefix, opcode, 0x96, 0x1A).set(Lab.PC, Lab.HOME);
        if (!asWithout) {
            twin.setPair(Lab.H, twin.get(index));
        }
        String name = "prefix " + prefix + " and " + opcode;
        Check.same("ticks of " + name, lab.step(), twin.step() + 4);
        int hl = lab.pair(Lab.H);
        for (int k = 0; k < 26; k++) {
            boolean compared = k != Lab.R && k != index && k != Lab.H && k != Lab.L;
            if (compared || asWithout && k != Lab.R) {
                Check.same("register " + k + " after " + name, lab.get(k), twin.get(k));
            }
        }
        if (!asWithout) {
            Check.same("HL after " + name, hl, 3333);
            Check.same("index after " + name, lab.get(index), twin.pair(Lab.H));
        }
        Check.same("R after " + name, lab.get(Lab.R), twin.get(Lab.R) + 1);
        for (int address : new int[] {0xA96, 0xA97, 3998, 3999, 4000, 4001, 3333}) {
            Check.same("byte at " + address + " after " + name, lab.peek(address), twin.peek(address));
        }
    }

    private static Lab prepared() {
        Lab lab = P10ArithmeticTest.numbered();
        return lab.put(0xA96, 0x71, 0x82).put(4000, 0x93, 0xA4).set(Lab.R, 3).set(Lab.F, 0x95);
    }

    private static void bytesAtXPlusD(int prefix) {
        for (int d : new int[] {-128, -3, 0, 1, 127}) {
            for (int k = 0; k < 8; k++) {
                if (k != 6) {
                    taken(prefix, d, k);
                    given(prefix, d, k);
                }
                operated(prefix, d, k);
            }
            Lab lab = withByte(prefix, d, 54, 0xE1);
            Check.same("ticks of a number at X + d", lab.step(), 17);
            Check.same("a number at X + d", lab.peek(lab.get(indexOf(prefix)) + d), 0xE1);
            Check.same("PC behind it", lab.get(Lab.PC), Lab.HOME + 4);
            counted(prefix, d, 0);
            counted(prefix, d, 1);
        }
    }

    private static Lab withByte(int prefix, int d, int opcode, int n) {
        Lab lab = P10ArithmeticTest.numbered(prefix, opcode, d, n);
        return lab.put(lab.get(indexOf(prefix)) + d, 0x8F);
    }

    private static void taken(int prefix, int d, int k) {
        Lab lab = withByte(prefix, d, 70 + 8 * k, 0);
        int[] due = registers(lab);
        due[P10ArithmeticTest.numberOf(k)] = 0x8F;
        due[Lab.PC] += 3;
        due[Lab.R] += 2;
        Check.same("ticks of r " + k + " from X + d", lab.step(), 14);
        compare("r " + k + " from X + " + d, lab, due);
    }

    private static void given(int prefix, int d, int k) {
        Lab lab = withByte(prefix, d, 112 + k, 0);
        int[] due = registers(lab);
        due[Lab.PC] += 3;
        due[Lab.R] += 2;
        Check.same("ticks of r " + k + " to X + d", lab.step(), 14);
        compare("r " + k + " to X + " + d, lab, due);
        Check.same("r " + k + " to X + " + d, lab.peek(lab.get(indexOf(prefix)) + d),
                due[P10ArithmeticTest.numberOf(k)]);
        Check.same("the byte at HL", lab.peek(3333), 221);
    }

    private static void operated(int prefix, int d, int y) {
        Lab lab = withByte(prefix, d, 134 + 8 * y, 0);
        int due = P10ArithmeticTest.op(y, lab.get(Lab.A), 0x8F, 1);
        Check.same("ticks of OP " + y + " of X + d", lab.step(), 14);
        Check.same("OP " + y + " of X + " + d, lab.pair(Lab.A), due);
    }

    private static void counted(int prefix, int d, int down) {
        Lab lab = withByte(prefix, d, 52 + down, 0);
        Check.same("ticks of INC or DEC of X + d", lab.step(), 17);
        Check.same("INC or DEC of X + " + d, lab.peek(lab.get(indexOf(prefix)) + d), down == 1 ? 0x8E : 0x90);
        Check.same("its flags", lab.get(Lab.F), P10ArithmeticTest.op(2 * down, 0x8F, 1, 0) & 254 | 1);
        Check.same("the byte at HL", lab.peek(3333), 221);
    }

    private static int[] registers(Lab lab) {
        int[] row = new int[26];
        for (int k = 0; k < 26; k++) {
            row[k] = lab.get(k);
        }
        return row;
    }

    private static void compare(String name, Lab lab, int[] due) {
        for (int k = 0; k < 26; k++) {
            Check.same("register " + k + " after " + name, lab.get(k), due[k]);
        }
    }

    /** The MORE use HL whatever the prefix was. */
    private static void theMoreBehindIt(int prefix) {
        int[] opcodes = {74, 66, 106, 98, 99, 107, 103, 111, 97, 96, 160, 161, 68, 71, 95, 0, 221, 253, 203};
        for (int opcode : opcodes) {
            Lab lab = prepared();
            lab.put(Lab.HOME - 1, prefix, 237, opcode, 0x96, 0x1A).set(Lab.PC, Lab.HOME - 1);
            Lab twin = prepared();
            twin.put(Lab.HOME - 1, prefix, 237, opcode, 0x96, 0x1A).set(Lab.PC, Lab.HOME).set(Lab.R, 4);
            String name = "prefix " + prefix + " and 237 " + opcode;
            Check.same("ticks of " + name, lab.step(), twin.step() + 4);
            compare(name, lab, registers(twin));
            Check.same("byte at nn after " + name, lab.peek(0xA96), twin.peek(0xA96));
            Check.same("M after " + name, lab.peek(3333), twin.peek(3333));
        }
    }

    private static void theLastPrefixCounts() {
        int[][] chains = {{221, 253}, {253, 221}, {221, 221}, {253, 253, 221}, {221, 253, 253}, {253, 221, 253}};
        for (int[] chain : chains) {
            Lab lab = Lab.with(chain).put(Lab.HOME + chain.length, 33, 0x34, 0x92);
            boolean x = chain[chain.length - 1] == 221;
            Check.same("ticks behind " + chain.length + " prefixes", lab.step(), 10 + 4 * chain.length);
            Check.same("X", lab.get(Lab.X), x ? 0x9234 : 0);
            Check.same("Y", lab.get(Lab.Y), x ? 0 : 0x9234);
            Check.same("R", lab.get(Lab.R), chain.length + 1);
            Check.same("HL", lab.pair(Lab.H), 0);
            Check.same("PC", lab.get(Lab.PC), Lab.HOME + chain.length + 3);
        }
        Lab lab = Lab.with(221, 253, 221, 237, 87).set(Lab.I, 44);
        Check.same("ticks of the MORE behind three prefixes", lab.step(), 20);
        Check.same("A = I behind three prefixes", lab.get(Lab.A), 44);
        lab = Lab.with(221, 221, 253, 203, 1, 198).set(Lab.Y, 3000);
        Check.same("ticks of a rotation behind three prefixes", lab.step(), 28);
        Check.same("the bit", lab.peek(3001), 1);
        lab = Lab.with(221, 0, 33, 0x34, 0x92);
        lab.computer.step(2);
        Check.same("a prefix holds for its instruction alone", lab.pair(Lab.H), 0x9234);
    }

    private static void fourPrefixes() {
        Lab lab = Lab.with(221, 253, 221, 253, 33, 0x34, 0x92, 221, 221, 221, 221, 221, 33, 1, 2);
        Check.same("ticks of four prefixes", lab.step(), 16);
        Check.same("PC behind four prefixes", lab.get(Lab.PC), Lab.HOME + 4);
        Check.same("R behind four prefixes", lab.get(Lab.R), 4);
        Check.same("ticks behind four prefixes", lab.step(), 10);
        Check.same("HL behind four prefixes", lab.pair(Lab.H), 0x9234);
        Check.same("Y behind four prefixes", lab.get(Lab.Y), 0);
        Check.same("ticks of four out of five", lab.step(), 16);
        Check.same("ticks of the fifth with its instruction", lab.step(), 14);
        Check.same("X behind the fifth", lab.get(Lab.X), 0x201);
    }
}
