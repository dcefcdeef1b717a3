import java.util.Arrays;

/** "Everything wraps.": the last value and the first one of everything that grows or falls. */
final class EdgeWrapTest {
    public static void main(String[] args) {
        bytesUpAndDown();
        halvesUpAndDown();
        pairsUpAndDown();
        sumsOfPairs();
        pcBehindOpcodes();
        pcBehindOtherBytes();
        pcByNearJumps();
        pcByRepeats();
        returnAddresses();
        stack();
        blocks();
        placesBehindPrefixes();
        vectors();
        refresh();
        loopCounter();
        Check.end();
    }

    private static void bytesUpAndDown() {
        for (int k : new int[] {0, 1, 2, 3, 4, 5, 7}) {
            int number = k == 7 ? Lab.A : Lab.B + k;
            int[] others = {0x11, 0x12, 0x13, 0x14, 0x15, 0x16, 0x17, 0x18};
            for (int down = 0; down < 2; down++) {
                Lab lab = Lab.with(4 + 8 * k + down);
                for (int i = 0; i < 8; i++) {
                    lab.set(i, others[i]);
                }
                lab.set(number, down == 1 ? 0 : 255).step();
                for (int i = 0; i < 8; i++) {
                    if (i != Lab.F) {
                        int due = i != number ? others[i] : down == 1 ? 255 : 0;
                        Check.same("register " + i + " as r " + k + " wraps", lab.get(i), due);
                    }
                }
                Check.same("C stays", lab.get(Lab.F) & 1, 0);
            }
        }
        Lab lab = Lab.with(52, 53).setPair(Lab.H, 3333).put(3332, 7, 255, 7);
        lab.step();
        Check.same("M wraps upwards", lab.peek(3333), 0);
        lab.step();
        Check.same("M wraps downwards", lab.peek(3333), 255);
        Check.same("the byte before M", lab.peek(3332), 7);
        Check.same("the byte behind M", lab.peek(3334), 7);
    }

    /** A half of X or Y wraps by itself: the other half stays. */
    private static void halvesUpAndDown() {
        int[][] cases = {{36, 0xFF34, 0x0034}, {37, 0x0034, 0xFF34}, {44, 0x12FF, 0x1200}, {45, 0x1200, 0x12FF},
            {36, 0x7FFF, 0x80FF}, {45, 0x0001, 0x0000}};
        for (int[] one : cases) {
            for (int prefix : new int[] {221, 253}) {
                int index = prefix == 221 ? Lab.X : Lab.Y;
                Lab lab = Lab.with(prefix, one[0]).set(index, one[1]).setPair(Lab.H, 0xFF00);
                lab.step();
                Check.same("prefix " + prefix + ", " + one[0] + " of " + one[1], lab.get(index), one[2]);
                Check.same("HL", lab.pair(Lab.H), 0xFF00);
            }
        }
    }

    private static void pairsUpAndDown() {
        for (int p = 0; p < 4; p++) {
            for (int down = 0; down < 2; down++) {
                Lab lab = Lab.with(3 + 16 * p + 8 * down);
                int from = down == 1 ? 0 : 65535;
                if (p == 3) {
                    lab.set(Lab.SP, from);
                } else {
                    lab.setPair(Lab.B + 2 * p, from);
                }
                lab.step();
                Check.same("w " + p + " from " + from, p == 3 ? lab.get(Lab.SP) : lab.pair(Lab.B + 2 * p),
                        65535 - from);
            }
        }
        for (int prefix : new int[] {221, 253}) {
            int index = prefix == 221 ? Lab.X : Lab.Y;
            Lab lab = Lab.with(prefix, 35, prefix, 43).set(index, 65535);
            lab.step();
            Check.same("index wraps upwards", lab.get(index), 0);
            lab.step();
            Check.same("index wraps downwards", lab.get(index), 65535);
        }
    }

    private static void sumsOfPairs() {
        Lab lab = Lab.with(9).setPair(Lab.H, 65535).setPair(Lab.B, 1);
        lab.step();
        Check.same("65535 + 1", lab.pair(Lab.H), 0);
        Check.same("its flags", lab.get(Lab.F), 16 + 1);
        lab = Lab.with(41).setPair(Lab.H, 0x8000);
        lab.step();
        Check.same("HL + HL", lab.pair(Lab.H), 0);
        Check.same("its flags", lab.get(Lab.F), 1);
        lab = Lab.with(221, 41).set(Lab.X, 0xFFFF);
        lab.step();
        Check.same("X + X", lab.get(Lab.X), 0xFFFE);
        lab = Lab.with(237, 74).setPair(Lab.H, 65535).setPair(Lab.B, 0).set(Lab.F, 1);
        lab.step();
        Check.same("65535 + 0 + C", lab.pair(Lab.H), 0);
        Check.same("its flags", lab.get(Lab.F), 64 + 16 + 1);
        lab = Lab.with(237, 66).setPair(Lab.H, 0).setPair(Lab.B, 65535).set(Lab.F, 1);
        lab.step();
        Check.same("0 - 65535 - C", lab.pair(Lab.H), 0);
        Check.same("its flags", lab.get(Lab.F), 64 + 16 + 2 + 1);
        lab = Lab.with(237, 66).setPair(Lab.H, 0).setPair(Lab.B, 0).set(Lab.F, 1);
        lab.step();
        Check.same("0 - 0 - C", lab.pair(Lab.H), 65535);
        Check.same("its flags", lab.get(Lab.F), 128 + 32 + 16 + 8 + 2 + 1);
    }

    /** Code that lies over the last address: its first bytes before, the others from 0 on. */
    private static Lab overTheEnd(int before, int... code) {
        Lab lab = Lab.with().set(Lab.PC, 65536 - before);
        return lab.put(65536 - before, code);
    }

    private static void behind(String name, Lab lab, int pc) {
        lab.step();
        Check.same("PC behind " + name, lab.get(Lab.PC), pc);
    }

    private static void pcBehindOpcodes() {
        behind("nothing at 65535", overTheEnd(1, 0), 0);
        Lab lab = overTheEnd(1, 203, 199);
        behind("203 at 65535", lab, 1);
        Check.same("bit 0 of A", lab.get(Lab.A), 1);
        lab = overTheEnd(1, 237, 68).set(Lab.A, 1);
        behind("237 at 65535", lab, 1);
        Check.same("0 - A", lab.get(Lab.A), 255);
        for (int before = 1; before <= 4; before++) {
            lab = overTheEnd(before, 221, 253, 221, 35);
            behind("three prefixes", lab, 4 - before);
            Check.same("X behind three prefixes", lab.get(Lab.X), 1);
            behind("four prefixes", overTheEnd(before, 221, 253, 221, 253), 4 - before);
        }
        lab = overTheEnd(1, 118);
        behind("HALT at 65535", lab, 0);
        behind("HALT that lasts", lab, 0);
        lab = Lab.with().set(Lab.PC, 4095).put(4095, 62).put(0, 77);
        behind("A = n at 4095", lab, 4097);
        Check.same("A by the byte at 0", lab.get(Lab.A), 77);
    }

    private static void pcBehindOtherBytes() {
        Lab lab = overTheEnd(1, 62, 77);
        behind("A = n", lab, 1);
        Check.same("n", lab.get(Lab.A), 77);
        for (int before = 1; before <= 3; before++) {
            lab = overTheEnd(before, 1, 0x34, 0x92);
            behind("BC = nn", lab, 3 - before);
            Check.same("nn with " + before + " before the end", lab.pair(Lab.B), 0x9234);
            behind("PC = nn", overTheEnd(before, 195, 0x34, 0x92), 0x9234);
        }
        for (int before = 1; before <= 4; before++) {
            lab = overTheEnd(before, 237, 75, 0x10, 0x0C).put(0xC10, 0x77, 0xEE);
            behind("BC = (nn)", lab, 4 - before);
            Check.same("(nn) with " + before + " before the end", lab.pair(Lab.B), 0xEE77);
            lab = overTheEnd(before, 221, 54, 5, 99).set(Lab.X, 3000);
            behind("a number at X + d", lab, 4 - before);
            Check.same("the number with " + before + " before the end", lab.peek(3005), 99);
            lab = overTheEnd(before, 253, 203, 255, 198).set(Lab.Y, 3000);
            behind("a rotation at Y + d", lab, 4 - before);
            Check.same("the bit with " + before + " before the end", lab.peek(2999), 1);
        }
        behind("a call that is not done", overTheEnd(2, 204, 1, 2), 1);
        behind("a near jump that is not done", overTheEnd(1, 40, 5), 1);
        lab = overTheEnd(1, 211, 254).set(Lab.A, 3);
        behind("port n = A", lab, 1);
        Check.same("the border", lab.computer.look(2), 3);
    }

    private static void pcByNearJumps() {
        int[][] cases = {{0, -2, 0}, {0, -3, 65535}, {0, -128, 65410}, {65533, 0, 65535}, {65533, 1, 0},
            {65533, 127, 126}, {65534, 0, 0}, {65534, -1, 65535}, {65535, -2, 65535}, {65535, -1, 0},
            {65535, 127, 128}, {65407, 127, 0}, {126, -128, 0}, {125, -128, 65535}};
        for (int[] one : cases) {
            String name = " at " + one[0] + " by " + one[1];
            behind("a near jump" + name, Lab.with().put(one[0], 24, one[1]).set(Lab.PC, one[0]), one[2]);
            behind("a loop" + name, Lab.with().put(one[0], 16, one[1]).set(Lab.PC, one[0]), one[2]);
            behind("a jump if not Z" + name, Lab.with().put(one[0], 32, one[1]).set(Lab.PC, one[0]), one[2]);
        }
    }

    /** "PC falls by 2" from 0 and from 1. */
    private static void pcByRepeats() {
        for (int before = 1; before <= 2; before++) {
            for (int opcode : new int[] {176, 177, 184, 185}) {
                Lab lab = overTheEnd(before, 237, opcode).setPair(Lab.B, 2).setPair(Lab.H, 3000);
                behind("a repeat of " + opcode, lab.setPair(Lab.D, 3500).set(Lab.A, 1), 65536 - before);
                behind("the last repeat of " + opcode, lab, 2 - before);
            }
        }
    }

    /** What CALL and the interrupt push is PC as it is behind the instruction, wrapped. */
    private static void returnAddresses() {
        for (int before = 1; before <= 3; before++) {
            Lab lab = overTheEnd(before, 205, 0x34, 0x92);
            behind("CALL nn", lab, 0x9234);
            Check.same("pushed by CALL", lab.peek(3998) + 256 * lab.peek(3999), 3 - before);
        }
        Lab lab = overTheEnd(1, 255);
        behind("CALL 56", lab, 56);
        Check.same("pushed by CALL 56", lab.peek(3998) + 256 * lab.peek(3999), 0);
        lab = overTheEnd(1, 0).waitUntil(4095).set(Lab.IFF1, 1);
        lab.computer.step(2);
        Check.same("pushed by the interrupt", lab.peek(3998) + 256 * lab.peek(3999), 0);
    }

    private static void stack() {
        int[][] falls = {{0, 65534}, {1, 65535}, {2, 0}};
        for (int[] one : falls) {
            for (int opcode : new int[] {197, 205, 199, 196, 245}) {
                Lab lab = Lab.with(opcode, 0, 0).set(Lab.SP, one[0]);
                lab.step();
                Check.same("SP from " + one[0] + " by " + opcode, lab.get(Lab.SP), one[1]);
            }
            Lab lab = Lab.with(0).set(Lab.SP, one[0]).set(Lab.IFF1, 1);
            lab.step();
            Check.same("SP from " + one[0] + " by the interrupt", lab.get(Lab.SP), one[1]);
        }
        int[][] grows = {{65533, 65535}, {65534, 0}, {65535, 1}};
        for (int[] one : grows) {
            for (int[] code : new int[][] {{193}, {201}, {192}, {241}, {237, 69}, {221, 225}}) {
                Lab lab = Lab.with(code).set(Lab.SP, one[0]);
                lab.step();
                Check.same("SP from " + one[0] + " by " + code[0], lab.get(Lab.SP), one[1]);
            }
        }
        Lab lab = Lab.with(227).set(Lab.SP, 65535).setPair(Lab.H, 0x1234).put(4095, 0x78).put(0, 0x56);
        lab.step();
        Check.same("SP stays at 65535", lab.get(Lab.SP), 65535);
        Check.same("HL from over the end", lab.pair(Lab.H), 0x5678);
        Check.same("the low byte went to 65535", lab.peek(4095), 0x34);
        Check.same("the high byte did not go to 0", lab.peek(0), 0x56);
    }

    private static void blocks() {
        for (int opcode : new int[] {160, 168, 161, 169}) {
            boolean up = opcode < 168;
            boolean move = opcode % 8 == 0;
            int from = up ? 65535 : 0;
            Lab lab = Lab.with(237, opcode).setPair(Lab.H, from).setPair(Lab.D, from).setPair(Lab.B, 0);
            lab.put(from, 9).step();
            Check.same("HL of " + opcode, lab.pair(Lab.H), 65535 - from);
            Check.same("DE of " + opcode, lab.pair(Lab.D), move ? 65535 - from : from);
            Check.same("BC of " + opcode, lab.pair(Lab.B), 65535);
            Check.same("V of " + opcode + ", BC being 65535", lab.get(Lab.F) & 4, 4);
        }
        for (int bc : new int[] {0, 1, 2, 256, 257}) {
            for (int opcode : new int[] {160, 161, 176, 177}) {
                Lab lab = Lab.with(237, opcode).setPair(Lab.B, bc).setPair(Lab.H, 3000).setPair(Lab.D, 3500);
                lab.set(Lab.A, 1).step();
                Check.same("BC from " + bc, lab.pair(Lab.B), bc - 1 & 65535);
                Check.same("V, BC from " + bc, lab.get(Lab.F) & 4, bc == 1 ? 0 : 4);
                boolean again = opcode >= 176 && bc != 1;
                Check.same("PC, BC from " + bc + " by " + opcode, lab.get(Lab.PC), Lab.HOME + (again ? 0 : 2));
            }
        }
    }

    private static void placesBehindPrefixes() {
        int[][] cases = {{0, -1, 4095}, {0, -128, 3968}, {127, -128, 4095}, {65535, 0, 4095}, {65535, 1, 0},
            {65535, 127, 126}, {65408, 127, 4095}, {65409, 127, 0}, {4095, 1, 0}, {4096, -1, 4095}};
        for (int[] one : cases) {
            for (int prefix : new int[] {221, 253}) {
                Lab lab = Lab.with(prefix, 126, one[1], prefix, 203, one[1], 66);
                lab.set(prefix == 221 ? Lab.X : Lab.Y, one[0]).put(one[2], 0x7E).step();
                Check.same("the byte at " + one[0] + " + " + one[1], lab.get(Lab.A), 0x7E);
                lab.put(one[2], 1).step();
                Check.same("Z by BIT 0 of it", lab.get(Lab.F) & 64, 0);
                Check.same("the index stays", lab.get(prefix == 221 ? Lab.X : Lab.Y), one[0]);
            }
        }
    }

    /** "the two bytes at I * 256 + 255", of which the second one is at the next page's beginning. */
    private static void vectors() {
        int[][] cases = {{255, 4095, 0}, {15, 4095, 0}, {0, 255, 256}, {3, 1023, 1024}, {7, 2047, 2048},
            {16, 255, 256}, {254, 3839, 3840}};
        for (int[] one : cases) {
            Lab lab = Lab.with().set(Lab.PC, 3000).set(Lab.MODE, 2).set(Lab.I, one[0]).set(Lab.IFF1, 1);
            lab.put(one[1], 0x78).put(one[2], 0x9A).step();
            Check.same("PC by I = " + one[0], lab.get(Lab.PC), 0x9A78);
        }
    }

    /** "R's lowest 7 bits too (by 1)" */
    private static void refresh() {
        int[][] cases = {{126, 127}, {127, 0}, {254, 255}, {255, 128}, {0, 1}, {128, 129}};
        for (int[] one : cases) {
            Lab lab = Lab.with(0).set(Lab.R, one[0]);
            lab.step();
            Check.same("R from " + one[0], lab.get(Lab.R), one[1]);
            lab = Lab.with(118);
            lab.step();
            lab.set(Lab.R, one[0]).step();
            Check.same("R from " + one[0] + " in HALT", lab.get(Lab.R), one[1]);
            lab = Lab.with(0).set(Lab.R, one[0]).set(Lab.IFF1, 1);
            lab.step();
            Check.same("R from " + one[0] + " by the interrupt", lab.get(Lab.R), one[1]);
        }
        int[][] fetches = {{1, 62, 5}, {2, 203, 7}, {2, 237, 68}, {2, 221, 35}, {2, 221, 203, 0, 70},
            {3, 221, 237, 68}, {4, 221, 221, 221, 35}, {4, 253, 253, 253, 253}, {2, 253, 54, 0, 0}};
        for (int[] one : fetches) {
            int[] code = Arrays.copyOfRange(one, 1, one.length);
            for (int r : new int[] {0, 124, 125, 126, 127, 252, 255}) {
                Lab lab = Lab.with(code).set(Lab.R, r).set(Lab.X, 3000).set(Lab.Y, 3000);
                lab.step();
                Check.same("R from " + r + " behind " + code[0] + " " + code[1], lab.get(Lab.R),
                        r / 128 * 128 + (r + one[0]) % 128);
            }
        }
    }

    /** "B falls by 1, if it is not 0 then": from 1, from 0, from 255. */
    private static void loopCounter() {
        int[][] cases = {{1, 0, 2}, {0, 255, 12}, {255, 254, 12}, {2, 1, 12}, {128, 127, 12}};
        for (int[] one : cases) {
            Lab lab = Lab.with(16, 10).set(Lab.B, one[0]).set(Lab.C, 0).set(Lab.F, 0xD7);
            lab.step();
            Check.same("B from " + one[0], lab.get(Lab.B), one[1]);
            Check.same("C beside it", lab.get(Lab.C), 0);
            Check.same("flags beside it", lab.get(Lab.F), 0xD7);
            Check.same("PC with B from " + one[0], lab.get(Lab.PC), Lab.HOME + one[2]);
        }
    }
}
