/** The edges of memory: which bits of an address count, and which bytes the processor leaves as they are. */
final class EdgeMemoryTest {
    /** What every byte that is to be written holds before, so that every writer changes it. */
    private static final int BEFORE = 0x5A;
    private static final int PROGRAM = 3000;
    private static final int[] KEPT = {0, 1, 511, 1022, 1023, 4096, 4096 + 1023, 8192, 32768 + 1023, 61440,
        61440 + 1023};
    private static final int[] WRITTEN = {1024, 1025, 2047, 2048, 3071, 3072, 4094, 4095, 4096 + 1024, 8191,
        32768 + 1024, 61440 + 1024, 65534, 65535};

    public static void main(String[] args) {
        writersOfAByte();
        writersOfTwoBytes();
        twoBytesOverTheEdges();
        theInterruptsPush();
        readersOfAByte();
        readersOfTwoBytes();
        opcodesAnywhere();
        pokesAnywhere();
        Check.end();
    }

    private interface Writer {
        void prepare(Lab lab, int address);
    }

    /** "0 .. 1023 keep what they have when the processor writes there": both sides of the edge. */
    private static void writes(String name, Writer writer, int offset) {
        for (int address : KEPT) {
            Lab lab = prepared(writer, address, offset);
            lab.step();
            Check.same(name + " leaves the byte at " + address, lab.peek(address), BEFORE);
        }
        for (int address : WRITTEN) {
            Lab lab = prepared(writer, address, offset);
            lab.step();
            Check.yes(name + " changes the byte at " + address, lab.peek(address) != BEFORE);
            Check.same(name + " changes the same byte, 12 bits", lab.peek(address & 4095), lab.peek(address));
        }
    }

    private static Lab prepared(Writer writer, int address, int offset) {
        Lab lab = Lab.with().set(Lab.PC, PROGRAM);
        writer.prepare(lab, address - offset & 65535);
        return lab.put(address, BEFORE);
    }

    private static int[] code(int... bytes) {
        return bytes;
    }

    private static void byHl(String name, int... bytes) {
        writes(name, (lab, a) -> numbered(lab).setPair(Lab.H, a).put(PROGRAM, bytes), 0);
    }

    private static Lab numbered(Lab lab) {
        for (int k = 0; k < 8; k++) {
            lab.set(k, 0x81 + 3 * k);
        }
        return lab;
    }

    private static void writersOfAByte() {
        writes("(BC) = A", (lab, a) -> numbered(lab).setPair(Lab.B, a).put(PROGRAM, 2), 0);
        writes("(DE) = A", (lab, a) -> numbered(lab).setPair(Lab.D, a).put(PROGRAM, 18), 0);
        writes("(nn) = A", (lab, a) -> numbered(lab).put(PROGRAM, 50, a, a >> 8), 0);
        for (int k : new int[] {0, 1, 2, 3, 7}) {
            byHl("M = r " + k, 112 + k);
        }
        byHl("M = n", 54, 0x77);
        byHl("INC M", 52);
        byHl("DEC M", 53);
        for (int y = 0; y < 8; y++) {
            byHl("turning M by " + y, 203, 6 + 8 * y);
            boolean isSet = (BEFORE >> y & 1) == 1;
            byHl("changing bit " + y + " of M", 203, (isSet ? 134 : 198) + 8 * y);
        }
        byHl("twelve bits to the right", 237, 103);
        byHl("twelve bits to the left", 237, 111);
        for (int y = 4; y < 8; y++) {
            int opcode = 128 + 8 * y;
            writes("MOVE " + y, (lab, a) -> lab.setPair(Lab.H, 3500).put(3500, 0x99).setPair(Lab.D, a)
                    .put(PROGRAM, 237, opcode), 0);
        }
        for (int prefix : new int[] {221, 253}) {
            for (int d : new int[] {-128, -1, 0, 127}) {
                writersAtXPlusD(prefix, d);
            }
        }
    }

    private static void writersAtXPlusD(int prefix, int d) {
        int index = prefix == 221 ? Lab.X : Lab.Y;
        int[][] codes = {code(prefix, 112, d), code(prefix, 117, d), code(prefix, 119, d), code(prefix, 54, d, 0x77),
            code(prefix, 52, d), code(prefix, 53, d), code(prefix, 203, d, 6), code(prefix, 203, d, 0),
            code(prefix, 203, d, 63), code(prefix, 203, d, 142), code(prefix, 203, d, 143), code(prefix, 203, d, 198),
            code(prefix, 203, d, 199)};
        for (int[] bytes : codes) {
            writes("prefix " + prefix + ", " + bytes[1] + ", d = " + d,
                    (lab, a) -> numbered(lab).set(index, a - d).put(PROGRAM, bytes), 0);
        }
    }

    private static void twoBytes(String name, Writer writer) {
        writes(name + ", low byte", writer, 0);
        writes(name + ", high byte", writer, 1);
    }

    private static void writersOfTwoBytes() {
        twoBytes("(nn) = HL", (lab, a) -> numbered(lab).put(PROGRAM, 34, a, a >> 8));
        twoBytes("(nn) = X", (lab, a) -> lab.set(Lab.X, 0x9876).put(PROGRAM, 221, 34, a, a >> 8));
        for (int p = 0; p < 4; p++) {
            int opcode = 67 + 16 * p;
            twoBytes("(nn) = w " + p,
                    (lab, a) -> numbered(lab).set(Lab.SP, 0x9876).put(PROGRAM, 237, opcode, a, a >> 8));
        }
        for (int p = 0; p < 4; p++) {
            int opcode = 197 + 16 * p;
            twoBytes("PUSH w " + p, (lab, a) -> numbered(lab).set(Lab.SP, a + 2).put(PROGRAM, opcode));
        }
        twoBytes("PUSH Y", (lab, a) -> lab.set(Lab.Y, 0x9876).set(Lab.SP, a + 2).put(PROGRAM, 253, 229));
        twoBytes("CALL nn", (lab, a) -> lab.set(Lab.SP, a + 2).put(PROGRAM, 205, 1, 2));
        twoBytes("CALL nn if not Z", (lab, a) -> lab.set(Lab.SP, a + 2).put(PROGRAM, 196, 1, 2));
        twoBytes("CALL 24", (lab, a) -> lab.set(Lab.SP, a + 2).put(PROGRAM, 223));
        twoBytes("HL and the top", (lab, a) -> numbered(lab).set(Lab.SP, a).put(PROGRAM, 227));
        twoBytes("X and the top", (lab, a) -> lab.set(Lab.X, 0x9876).set(Lab.SP, a).put(PROGRAM, 221, 227));
    }

    /** Two bytes of which one is kept and the other written, on each edge and on the wrap. */
    private static void twoBytesOverTheEdges() {
        for (int low : new int[] {1022, 1023, 1024, 4094, 4095, 5119, 65534, 65535, 0}) {
            Lab lab = Lab.with().put(PROGRAM, 34, low, low >> 8).set(Lab.PC, PROGRAM).setPair(Lab.H, 0xABCD);
            expectTwo("(nn) = HL", lab, low);
            lab = Lab.with().put(PROGRAM, 197).set(Lab.PC, PROGRAM).setPair(Lab.B, 0xABCD).set(Lab.SP, low + 2);
            expectTwo("PUSH", lab, low);
            Check.same("SP behind PUSH", lab.get(Lab.SP), low);
            lab = Lab.with().put(PROGRAM, 227).set(Lab.PC, PROGRAM).setPair(Lab.H, 0xABCD).set(Lab.SP, low);
            expectTwo("HL and the top", lab, low);
            Check.same("HL is what was there", lab.pair(Lab.H), 0x1122);
        }
    }

    private static void expectTwo(String name, Lab lab, int low) {
        lab.put(low, 0x22).put(low + 1, 0x11).step();
        Check.same(name + ", low byte at " + low, lab.peek(low), (low & 4095) < 1024 ? 0x22 : 0xCD);
        Check.same(name + ", high byte behind " + low, lab.peek(low + 1), (low + 1 & 4095) < 1024 ? 0x11 : 0xAB);
    }

    private static void theInterruptsPush() {
        for (int sp : new int[] {0, 1, 2, 1023, 1024, 1025, 1026, 4096, 4097, 5121, 65535}) {
            Lab lab = Lab.with(0).set(Lab.PC, 0xABCD).set(Lab.SP, sp).set(Lab.IFF1, 1);
            int low = sp - 2 & 65535;
            lab.put(low, 0x22).put(low + 1, 0x11);
            Check.same("ticks of the interrupt", lab.step(), 10);
            Check.same("SP from " + sp, lab.get(Lab.SP), low);
            Check.same("low byte, SP from " + sp, lab.peek(low), (low & 4095) < 1024 ? 0x22 : 0xCD);
            Check.same("high byte, SP from " + sp, lab.peek(low + 1), (low + 1 & 4095) < 1024 ? 0x11 : 0xAB);
            Check.same("PC", lab.get(Lab.PC), 56);
        }
    }

    /** "addresses are 16 bits, of which the lowest 12 count" */
    private static void readersOfAByte() {
        for (int address : new int[] {0, 1023, 1024, 4095, 4096, 8191, 8192, 32767, 32768, 61439, 61440, 65535}) {
            readsIntoA("A = (BC)", address, Lab.with(10).setPair(Lab.B, address));
            readsIntoA("A = (DE)", address, Lab.with(26).setPair(Lab.D, address));
            readsIntoA("A = (nn)", address, Lab.with(58, address, address >> 8));
            readsIntoA("A = M", address, Lab.with(126).setPair(Lab.H, address));
            readsIntoA("A or M", address, Lab.with(182).setPair(Lab.H, address));
            readsIntoA("A = the byte at X + 127", address, Lab.with(221, 126, 127).set(Lab.X, address - 127));
            readsIntoA("A = the byte at Y - 128", address, Lab.with(253, 126, 128).set(Lab.Y, address + 128));
            Lab lab = Lab.with(237, 160).setPair(Lab.H, address).setPair(Lab.D, 3500).put(address, 0xB7);
            lab.step();
            Check.same("MOVE from " + address, lab.peek(3500), 0xB7);
            lab = Lab.with(237, 161).setPair(Lab.H, address).set(Lab.A, 0xB7).put(address, 0xB7);
            lab.step();
            Check.same("LOOK at " + address, lab.get(Lab.F) & 64, 64);
        }
    }

    private static void readsIntoA(String name, int address, Lab lab) {
        lab.put(address, 0xB7).step();
        Check.same(name + " at " + address, lab.get(Lab.A), 0xB7);
    }

    private static void readersOfTwoBytes() {
        for (int low : new int[] {1022, 1023, 1024, 2046, 4094, 4095, 4096, 8191, 65534, 65535, 0}) {
            readsTwo("HL = (nn)", low, Lab.with(42, low, low >> 8), Lab.H);
            readsTwo("BC = (nn)", low, Lab.with(237, 75, low, low >> 8), Lab.B);
            readsTwo("POP DE", low, Lab.with(209).set(Lab.SP, low), Lab.D);
            readsTwo("POP AF", low, Lab.with(241).set(Lab.SP, low), Lab.A);
            Lab lab = Lab.with(201).set(Lab.SP, low).put(low, 0x22).put(low + 1, 0x11);
            lab.step();
            Check.same("RETURN from " + low, lab.get(Lab.PC), 0x1122);
            Check.same("SP behind RETURN from " + low, lab.get(Lab.SP), low + 2 & 65535);
            lab = Lab.with(221, 225).set(Lab.SP, low).put(low, 0x22).put(low + 1, 0x11);
            lab.step();
            Check.same("POP X from " + low, lab.get(Lab.X), 0x1122);
        }
    }

    private static void readsTwo(String name, int low, Lab lab, int high) {
        lab.put(low, 0x22).put(low + 1, 0x11).step();
        Check.same(name + " at " + low, lab.pair(high), 0x1122);
    }

    private static void opcodesAnywhere() {
        for (int address : new int[] {0, 1023, 1024, 2047, 2048, 4095, 4096, 8191, 40000, 61440, 65535}) {
            Lab lab = Lab.with().put(address, 60).set(Lab.PC, address);
            lab.step();
            Check.same("INC A at " + address, lab.get(Lab.A), 1);
            Check.same("PC behind " + address, lab.get(Lab.PC), address + 1 & 65535);
        }
    }

    /** "also below 1024", and with the lowest bits alone. */
    private static void pokesAnywhere() {
        for (int address : new int[] {0, 1023, 1024, 4095, 4096, 4096 + 1023, 65535, 65536, -1, -4096, -4097}) {
            Lab lab = Lab.with().put(address, 0x1A5);
            Check.same("poked at " + address, lab.peek(address & 4095), 0xA5);
            Check.same("the byte before " + address, lab.peek(address - 1), 0);
            Check.same("the byte behind " + address, lab.peek(address + 1), 0);
            lab.computer.load(address, 0xC1C2C3C4, 4);
            for (int k = 0; k < 4; k++) {
                Check.same("loaded from " + address + ", byte " + k, lab.peek(address + k & 4095), 0xC1 + k);
            }
            Check.same("the byte behind four", lab.peek(address + 4), 0);
        }
    }
}
