import java.util.Random;

/** Runs of calls that are answered as the model does: every opcode on many states, and any programs. */
final class ModelTest {
    private static final int[] EDGE_BYTES = {0, 1, 2, 7, 8, 9, 10, 15, 16, 40, 127, 128, 129, 153, 154, 160, 254, 255};
    private static final int[] EDGE_WORDS = {0, 1, 2, 127, 128, 255, 256, 1022, 1023, 1024, 1025, 2046, 2047, 2048,
        2049, 4094, 4095, 4096, 4097, 5118, 5119, 5120, 6143, 6144, 32767, 32768, 61439, 61440, 65534, 65535};
    private static final int[][] TABLES = {{}, {203}, {237}, {221}, {253}, {221, 203}, {253, 203}, {221, 253},
        {253, 253, 221}, {221, 221, 253}};
    /** What programs like to do: ports, prefixes, interrupts, blocks, jumps. */
    private static final int[] LIKED = {211, 219, 254, 237, 120, 121, 221, 253, 203, 251, 118, 176, 184, 16, 24, 60, 0,
        86, 94, 225, 229, 227, 52, 53, 201, 77, 95};

    public static void main(String[] args) {
        Random random = new Random(11);
        for (int[] table : TABLES) {
            for (int opcode = 0; opcode < 256; opcode++) {
                for (int k = 0; k < 12; k++) {
                    oneOpcode(random, table, opcode);
                }
            }
        }
        for (int seed = 0; seed < 1500; seed++) {
            anyProgram(new Random(seed), "program " + seed);
        }
        for (int seed = 0; seed < 600; seed++) {
            anyTape(new Random(seed), "tape " + seed);
        }
        Check.end();
    }

    private static int anyByte(Random random) {
        return random.nextBoolean() ? random.nextInt(256) : EDGE_BYTES[random.nextInt(EDGE_BYTES.length)];
    }

    private static int anyWord(Random random) {
        return random.nextBoolean() ? random.nextInt(65536) : EDGE_WORDS[random.nextInt(EDGE_WORDS.length)];
    }

    private static int anyOf(Random random, int[] row) {
        return row[random.nextInt(row.length)];
    }

    /** Four states on one computer, at any time of a frame. */
    private static void oneOpcode(Random random, int[] table, int opcode) {
        StringBuilder name = new StringBuilder("opcode");
        for (int b : table) {
            name.append(' ').append(b);
        }
        Twin twin = new Twin(name.append(' ').append(opcode).toString());
        twin.set(21, 2048);
        for (int k = random.nextInt(11); k > 0; k--) {
            twin.step(100);
        }
        for (int state = 0; state < 4; state++) {
            anyRegisters(random, twin);
            int d = anyByte(random);
            int nn = anyWord(random);
            twin.code(twin.model.register(21), bytesOf(table, opcode, d, nn));
            anyBytesAround(random, twin, d, nn);
            twin.step(1);
            twin.registersAndLooks();
            seeBytesAround(twin, d, nn);
        }
    }

    /** Behind a prefix and 203 the displacement stands before the opcode; elsewhere it is the first byte behind. */
    private static int[] bytesOf(int[] table, int opcode, int d, int nn) {
        if (table.length == 3) {
            return new int[] {table[0], table[1], table[2], opcode, d, nn & 255, nn >> 8};
        }
        if (table.length == 2 && table[1] == 203) {
            return new int[] {table[0], table[1], d, opcode};
        }
        if (table.length == 2) {
            return new int[] {table[0], table[1], opcode, d, nn & 255, nn >> 8};
        }
        if (table.length == 1 && table[0] != 237) {
            return new int[] {table[0], opcode, d, nn & 255, nn >> 8};
        }
        return table.length == 1 ? new int[] {237, opcode, nn & 255, nn >> 8} : new int[] {opcode, nn & 255, nn >> 8};
    }

    private static void anyRegisters(Random random, Twin twin) {
        for (int k = 0; k <= 17; k++) {
            twin.set(k, anyByte(random));
        }
        for (int k = 18; k <= 21; k++) {
            twin.set(k, anyWord(random));
        }
        twin.set(22, random.nextInt(8) == 0 ? 1 : 0);
        twin.set(23, random.nextInt(2));
        twin.set(24, random.nextInt(3));
    }

    private static int[] around(Twin twin, int d, int nn) {
        Model m = twin.model;
        int hl = m.register(6) * 256 + m.register(7);
        int de = m.register(4) * 256 + m.register(5);
        int bc = m.register(2) * 256 + m.register(3);
        int sp = m.register(20);
        return new int[] {hl, de, bc, sp, sp + 1, m.register(18) + (byte) d, m.register(19) + (byte) d, nn, nn + 1,
            m.register(16) * 256 + 255};
    }

    private static void anyBytesAround(Random random, Twin twin, int d, int nn) {
        int pc = twin.model.register(21);
        for (int address : around(twin, d, nn)) {
            if ((address - pc & 4095) > 8) {
                twin.poke(address, anyByte(random));
            }
        }
    }

    private static void seeBytesAround(Twin twin, int d, int nn) {
        for (int address : around(twin, d, nn)) {
            twin.peek(address);
            twin.peek(address - 1);
        }
    }

    private static void anyProgram(Random random, String name) {
        Twin twin = new Twin(name);
        for (int k = 0; k < 12; k++) {
            int[] bytes = new int[12];
            for (int i = 0; i < bytes.length; i++) {
                bytes[i] = random.nextBoolean() ? anyOf(random, LIKED) : anyByte(random);
            }
            twin.code(k < 4 ? anyWord(random) : random.nextInt(65536), bytes);
        }
        anyRegisters(random, twin);
        for (int k = random.nextInt(5); k > 0; k--) {
            twin.pulse(1 + random.nextInt(900));
        }
        while (twin.callsLeft() > 330) {
            anyCall(random, twin);
        }
        while (twin.callsLeft() > 200) {
            twin.step(1);
            twin.register(random.nextInt(26));
            twin.look(random.nextInt(7));
        }
        twin.registersAndLooks();
        twin.stripes();
        while (twin.callsLeft() > 0) {
            twin.peek(anyWord(random));
        }
    }

    private static void anyCall(Random random, Twin twin) {
        switch (random.nextInt(14)) {
            case 0:
                twin.frame();
                break;
            case 1:
                twin.key(random.nextInt(10) - 1, random.nextInt(7) - 1, random.nextBoolean());
                break;
            case 2:
                twin.tape(random.nextInt(5) - 1);
                break;
            case 3:
                twin.pulse(random.nextBoolean() ? random.nextInt(300) : random.nextInt(12000));
                break;
            case 4:
                twin.set(random.nextInt(28) - 1, anyWord(random));
                break;
            case 5:
                twin.set(21, anyWord(random));
                break;
            case 6:
                twin.set(22, 1);
                break;
            case 7:
                twin.poke(anyWord(random), anyOf(random, LIKED));
                break;
            case 8:
                twin.step(random.nextInt(104) - 1);
                break;
            case 9:
                twin.stripe(random.nextInt(67) - 1);
                break;
            case 10:
                twin.load(random.nextInt(), random.nextInt(), random.nextInt(7) - 1);
                break;
            default:
                twin.step(1 + random.nextInt(4));
                break;
        }
    }

    /** A loop that reads and writes ports beside a tape, keys and a border that change. */
    private static void anyTape(Random random, String name) {
        Twin twin = new Twin(name);
        int home = random.nextBoolean() ? 2048 : 1024;
        twin.code(home, 237, 120, 237, 81, 20, 219, anyOf(random, new int[] {254, 255, 0, 1}), 211, 254, 24, 245);
        twin.set(21, home);
        twin.set(2, anyByte(random));
        twin.set(3, anyOf(random, new int[] {254, 255, 0, 1}));
        for (int k = 1 + random.nextInt(43); k > 0; k--) {
            twin.pulse(random.nextBoolean() ? 1 + random.nextInt(40) : random.nextInt(10002));
        }
        for (int k = 0; k < 6; k++) {
            twin.key(random.nextInt(8), random.nextInt(5), true);
        }
        twin.tape(1);
        while (twin.callsLeft() > 110) {
            int kind = random.nextInt(12);
            if (kind == 0) {
                twin.frame();
            } else if (kind == 1) {
                twin.tape(random.nextInt(8) == 0 ? 2 : random.nextInt(2));
            } else if (kind == 2) {
                twin.pulse(1 + random.nextInt(200));
            } else {
                twin.step(1);
                twin.register(0);
                twin.look(4 + random.nextInt(3));
            }
        }
        twin.registersAndLooks();
        twin.stripes();
    }
}
