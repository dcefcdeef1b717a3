/** The edges of the ports: keys, border, speaker, and the moment from which a write holds. */
final class EdgePortTest {
    public static void main(String[] args) {
        keysLimits();
        rowsLookedAt();
        allKeys();
        keyTwice();
        evenAndOdd();
        borderBits();
        speakerBit();
        whatHoldsFromTheEndOn();
        bothWaysToAPort();
        Check.end();
    }

    /** What the port with this number reads. */
    private static int read(Lab lab, int port) {
        lab.put(3000, 237, 120).set(Lab.PC, 3000).setPair(Lab.B, port).step();
        return lab.get(Lab.A);
    }

    private static void write(Lab lab, int port, int value) {
        lab.put(3000, 237, 121).set(Lab.PC, 3000).setPair(Lab.B, port).set(Lab.A, value).step();
    }

    /** "A key (0 .. 4) of a half-row (0 .. 7)": the first and the last are taken, those beside them are not. */
    private static void keysLimits() {
        for (int row = -2; row <= 9; row++) {
            for (int key = -2; key <= 6; key++) {
                for (boolean down : new boolean[] {true, false}) {
                    Lab lab = new Lab();
                    boolean is = row >= 0 && row <= 7 && key >= 0 && key <= 4;
                    lab.computer.key(0, 0, !down);
                    lab.computer.key(7, 4, !down);
                    Check.same("key(" + row + ", " + key + ", " + down + ")",
                            lab.computer.key(row, key, down) ? 1 : 0, is ? 1 : 0);
                    for (int other = 0; other < 8; other++) {
                        boolean edge = other == 0 || other == 7;
                        int due = edge && !down ? 191 - (other == 0 ? 1 : 16) : 191;
                        if (is && other == row) {
                            due = down ? due & ~(1 << key) : due | 1 << key;
                        }
                        Check.same("row " + other + " after key(" + row + ", " + key + ", " + down + ")",
                                read(lab, 65534 - (256 << other)), due);
                    }
                }
            }
        }
        int[] far = {Integer.MIN_VALUE, Integer.MAX_VALUE, -8, 8, 16, 32, 40, 256, 65536};
        for (int number : far) {
            Lab lab = new Lab();
            Check.no("row " + number, lab.computer.key(number, 0, true));
            Check.no("key " + number, lab.computer.key(0, number, true));
            Check.same("all rows", read(lab, 0), 191);
        }
    }

    /** "row k (0 .. 7) is looked at if bit 256 << k of the port's number is 0": the bits below 256 pick none. */
    private static void rowsLookedAt() {
        for (int row = 0; row < 8; row++) {
            Lab lab = new Lab();
            lab.computer.key(row, row % 5, true);
            int down = 191 - (1 << row % 5);
            for (int low : new int[] {0, 2, 126, 128, 254}) {
                Check.same("no row, low byte " + low, read(lab, 0xFF00 + low), 191);
                Check.same("all rows, low byte " + low, read(lab, low), down);
                Check.same("row " + row + " alone, low byte " + low, read(lab, 0xFF00 - (256 << row) + low), down);
                Check.same("all but row " + row + ", low byte " + low, read(lab, (256 << row) + low), 191);
            }
        }
    }

    /** None down and all down, one row and all rows. */
    private static void allKeys() {
        Lab lab = new Lab();
        Check.same("none down", read(lab, 0), 160 + 31);
        for (int row = 0; row < 8; row++) {
            for (int key = 0; key < 5; key++) {
                lab.computer.key(row, key, true);
            }
        }
        Check.same("all down", read(lab, 0), 160);
        Check.same("all down, no row", read(lab, 0xFF00), 191);
        for (int row = 0; row < 8; row++) {
            Check.same("all down, row " + row, read(lab, 0xFF00 - (256 << row)), 160);
        }
        for (int key = 0; key < 5; key++) {
            for (int row = 0; row < 8; row++) {
                lab.computer.key(row, key, false);
                int due = 160 + (1 << key) - 1 + (row == 7 ? 1 << key : 0);
                Check.same("key " + key + " up in rows 0 to " + row, read(lab, 0), due);
            }
        }
    }

    /** Down when it is down and up when it is up: taken, and nothing is another. */
    private static void keyTwice() {
        Lab lab = new Lab();
        Check.yes("up when it is up", lab.computer.key(3, 2, false));
        Check.same("up", read(lab, 0), 191);
        Check.yes("down", lab.computer.key(3, 2, true));
        Check.yes("down when it is down", lab.computer.key(3, 2, true));
        Check.same("down", read(lab, 0), 187);
        Check.yes("up", lab.computer.key(3, 2, false));
        Check.same("up again", read(lab, 0), 191);
    }

    /** "Odd ones: 255, written nothing happens." */
    private static void evenAndOdd() {
        for (int port : new int[] {0, 1, 2, 3, 127, 128, 253, 254, 255, 256, 257, 32767, 32768, 65533, 65534, 65535}) {
            Lab lab = new Lab();
            for (int row = 0; row < 8; row++) {
                lab.computer.key(row, 1, true);
            }
            boolean even = port % 2 == 0;
            Check.same("reading port " + port, read(lab, port), !even ? 255 : port >= 0xFF00 ? 191 : 189);
            write(lab, port, 0x16);
            Check.same("border by port " + port, lab.computer.look(2), even ? 6 : 0);
            Check.same("edges by port " + port, lab.computer.look(3), even ? 1 : 0);
        }
    }

    /** "bits 1, 2, 4 are the BORDER's colour" */
    private static void borderBits() {
        int[][] cases = {{1, 1}, {2, 2}, {4, 4}, {7, 7}, {8, 0}, {16, 0}, {248, 0}, {255, 7}, {0, 0}, {15, 7},
            {128 + 5, 5}};
        Lab lab = new Lab();
        for (int[] one : cases) {
            write(lab, 254, one[0]);
            Check.same("border by " + one[0], lab.computer.look(2), one[1]);
        }
    }

    /** "bit 16 the SPEAKER: each time it changes is an EDGE", low at first. */
    private static void speakerBit() {
        int[][] cases = {{0, 0}, {15, 0}, {239, 0}, {16, 1}, {16, 1}, {31, 1}, {255, 1}, {239, 2}, {0, 2}, {48, 3},
            {32, 4}, {8, 4}, {24, 5}};
        Lab lab = new Lab();
        for (int k = 0; k < cases.length; k++) {
            write(lab, 254, cases[k][0]);
            Check.same("edges after write " + k + " of " + cases[k][0], lab.computer.look(3), cases[k][1]);
        }
    }

    /** "What is written holds from the end of the access on (a line that begins then has it)." */
    private static void whatHoldsFromTheEndOn() {
        for (int end = 62; end <= 67; end++) {
            Lab lab = Lab.with(211, 254, 118).waitUntil(960 + end - 11).set(Lab.A, 5);
            lab.step();
            Check.same("the write's end", lab.computer.look(1), 960 + end);
            lab.computer.step(1);
            Check.same("line 16 by a write that ends " + (end - 64) + " behind its beginning",
                    lab.computer.stripe(16), end <= 64 ? 5 : 0);
            Check.same("line 15", lab.computer.stripe(15), 0);
        }
        Lab lab = Lab.with(211, 254, 211, 254).waitUntil(4096 - 11).set(Lab.A, 3);
        lab.step();
        Check.same("the frame's line 0 begins with the write's end", lab.computer.stripe(0), 3);
        Check.same("line 63 had begun", lab.computer.stripe(63), 0);
        lab.set(Lab.A, 4).step();
        Check.same("line 0 stays", lab.computer.stripe(0), 3);
        Check.same("line 1 is to come", lab.computer.stripe(1), 0);
        slowedWrite();
    }

    /** A write that is slowed over a line's end can't be: waiting ends within the first 32 ticks of a line. */
    private static void slowedWrite() {
        Lab lab = Lab.with(211, 254).waitUntil(1088 - 7).set(Lab.A, 6);
        Check.same("a write that begins with line 17", lab.step(), 17);
        Check.same("line 17 began before it", lab.computer.stripe(17), 0);
        lab = Lab.with(211, 254, 118).waitUntil(1088 - 11).set(Lab.A, 6);
        Check.same("a write that ends with line 17's beginning", lab.step(), 11);
        Check.same("line 17 has it", lab.computer.stripe(17), 6);
        lab = Lab.with(211, 254, 118).waitUntil(1088 - 10).set(Lab.A, 6);
        Check.same("a write that ends a tick later", lab.step(), 11);
        Check.same("line 17 has it not", lab.computer.stripe(17), 0);
    }

    /** Port A * 256 + n and port BC are the same ports. */
    private static void bothWaysToAPort() {
        for (int high : new int[] {0, 0x7F, 0xFE, 0xFF}) {
            Lab lab = Lab.with(219, 254).set(Lab.A, high);
            lab.computer.key(7, 4, true);
            lab.computer.key(0, 0, true);
            int byBc = read(lab, high * 256 + 254);
            lab.set(Lab.PC, Lab.HOME).set(Lab.A, high).step();
            Check.same("port " + high + " * 256 + 254", lab.get(Lab.A), byBc);
        }
        Lab lab = Lab.with(211, 255, 211, 0).set(Lab.A, 0x11);
        lab.step();
        Check.same("border by an odd n", lab.computer.look(2), 0);
        lab.step();
        Check.same("border by an even n", lab.computer.look(2), 1);
    }
}
