import java.util.Arrays;

/** The edges of time: accesses, slowed ones, lines, frames, and what 512 calls can count. */
final class EdgeTimeTest {
    public static void main(String[] args) {
        accesses();
        linesThatSlow();
        ticksThatSlow();
        placesThatAreSlowed();
        portsThatAreSlowed();
        anAccessThatWaitsIsNotSlowedAgain();
        theInterruptsOwnTicks();
        framesAndLines();
        stepsLimits();
        framesEnd();
        stripesLimits();
        linesThatNeverBegan();
        fiveHundredAndTwelveCalls();
        Check.end();
    }

    /** "FETCHING an opcode byte takes 4 ticks, reading or writing another byte 3, a port 4." */
    private static void accesses() {
        int[][] cases = {{4, 0}, {7, 62, 0}, {10, 1, 0, 0}, {7, 126}, {7, 119}, {10, 54, 0}, {10, 52}, {7, 24, 0},
            {7, 16, 0}, {7, 32, 0}, {7, 40, 0}, {4, 118}, {10, 195, 0, 0}, {10, 202, 0, 0}, {16, 205, 0, 0},
            {10, 204, 0, 0}, {16, 196, 0, 0}, {10, 201}, {4, 200}, {10, 192}, {10, 199}, {10, 197}, {10, 193},
            {16, 227}, {4, 217}, {4, 8}, {4, 235}, {4, 233}, {4, 249}, {11, 211, 0}, {11, 219, 1}, {8, 203, 0},
            {14, 203, 6}, {11, 203, 70}, {14, 203, 134}, {12, 237, 64}, {12, 237, 65}, {8, 237, 66},
            {20, 237, 67, 0, 0}, {8, 237, 68}, {14, 237, 69}, {8, 237, 70}, {8, 237, 71}, {14, 237, 103}, {14, 237, 160}, {11, 237, 161},
            {14, 237, 176}, {11, 237, 177}, {8, 237, 0}, {8, 237, 119}, {8, 237, 128}, {8, 237, 162}, {8, 237, 255},
            {8, 221, 0}, {14, 221, 126, 0}, {14, 221, 112, 0}, {17, 221, 54, 0, 0}, {17, 221, 52, 0},
            {20, 221, 203, 0, 0}, {20, 221, 203, 0, 6}, {17, 221, 203, 0, 64}, {14, 221, 134, 0}, {14, 221, 33, 0, 0},
            {20, 221, 34, 0, 0}, {8, 221, 9}, {14, 221, 229}, {20, 221, 227}, {8, 221, 233}, {12, 221, 237, 68},
            {16, 221, 221, 221, 0}, {16, 221, 221, 221, 221}, {13, 50, 0, 0}, {16, 34, 0, 0}, {7, 2}, {7, 10}};
        for (int[] one : cases) {
            int[] code = Arrays.copyOfRange(one, 1, one.length);
            Lab lab = Lab.with(code).setPair(Lab.H, 3000).setPair(Lab.D, 3100).setPair(Lab.B, 3201);
            StringBuilder name = new StringBuilder("ticks of");
            for (int b : code) {
                name.append(' ').append(b);
            }
            Check.same(name.toString(), lab.set(Lab.X, 3300).step(), one[0]);
        }
    }

    /** The ticks of fetching from slowed memory at a tick of a frame; in later frames HALT does the fetching. */
    private static int fetchAt(int frames, int tick) {
        if (frames == 0) {
            return Lab.with().waitUntil(tick).set(Lab.PC, 1500).step();
        }
        Lab lab = Lab.with(118);
        for (int k = 0; k < frames; k++) {
            lab.computer.frame();
        }
        return inHalt(lab, tick);
    }

    /** In HALT a tick that is a multiple of 4 can be waited for. */
    private static int inHalt(Lab lab, int tick) {
        for (int left = tick / 4; left > 0; left -= 100) {
            lab.computer.step(Math.min(100, left));
        }
        Check.same("the tick in HALT", lab.computer.look(1), tick);
        return lab.set(Lab.PC, 1500).step();
    }

    /** "if the line is 16 .. 47": in the first frame and in later ones. */
    private static void linesThatSlow() {
        int[][] cases = {{0, 0}, {15, 0}, {16, 6}, {17, 6}, {46, 6}, {47, 6}, {48, 0}, {63, 0}};
        for (int[] one : cases) {
            for (int frames = 0; frames < 4; frames++) {
                if (one[0] > 0 || frames > 0) {
                    Check.same("waiting at line " + one[0] + " of frame " + frames,
                            fetchAt(frames, 64 * one[0]) - 4, one[1]);
                }
            }
        }
        Check.same("the last tick of line 15", fetchAt(0, 64 * 16 - 1), 4);
        Check.same("the first tick of line 48", fetchAt(0, 64 * 48), 4);
    }

    /** "the tick t of the line is below 32", "6, 5, 4, 3, 2, 1, 0, 0 ticks for t & 7 = 0 .. 7" */
    private static void ticksThatSlow() {
        int[] later = {6, 5, 4, 3, 2, 1, 0, 0};
        for (int line : new int[] {16, 47}) {
            for (int t = 0; t < 64; t++) {
                Check.same("waiting at tick " + t + " of line " + line, fetchAt(0, 64 * line + t) - 4,
                        t < 32 ? later[t & 7] : 0);
            }
        }
    }

    private static void placesThatAreSlowed() {
        int[][] cases = {{0, 0}, {1023, 0}, {1024, 6}, {1025, 6}, {2046, 6}, {2047, 6}, {2048, 0}, {4095, 0},
            {4096, 0}, {5119, 0}, {5120, 6}, {6143, 6}, {6144, 0}, {62463, 0}, {62464, 6}, {63487, 6}, {63488, 0},
            {65535, 0}};
        for (int[] one : cases) {
            int address = one[0];
            Check.same("fetching at " + address, at(1024, address, Lab.with()).step() - 4, one[1]);
            Lab lab = at(1020, 3000, Lab.with()).put(3000, 126).setPair(Lab.H, address);
            Check.same("reading at " + address, lab.step() - 7, one[1]);
            lab = at(1020, 3000, Lab.with()).put(3000, 119).setPair(Lab.H, address);
            Check.same("writing at " + address, lab.step() - 7, one[1]);
            lab = at(1020, 3000, Lab.with()).put(3000, 197).set(Lab.SP, address + 1);
            int tick = 1024;
            tick += one[1] + 3;
            tick += ((address - 1 & 4095) >> 10 == 1 ? slowedFrom(tick) : 0) + 3;
            Check.same("pushing at " + address + " and below", lab.step(), tick - 1020);
        }
    }

    private static Lab at(int tick, int pc, Lab lab) {
        return lab.waitUntil(tick).set(Lab.PC, pc);
    }

    private static int slowedFrom(int tick) {
        return P10StepTest.delay(tick);
    }

    /** "or to an even port": by the port's lowest bit alone. */
    private static void portsThatAreSlowed() {
        for (int port : new int[] {0, 1, 2, 3, 254, 255, 256, 257, 1023, 1024, 1025, 1500, 1501, 2047, 65534, 65535}) {
            for (int opcode : new int[] {120, 121, 112, 113}) {
                Lab lab = at(1024, 3000, Lab.with()).put(3000, 237, opcode).setPair(Lab.B, port);
                Check.same("port " + port + " by 237 " + opcode, lab.step() - 12, port % 2 == 0 ? 6 : 0);
                lab = at(1048, 3000, Lab.with()).put(3000, 237, opcode).setPair(Lab.B, port);
                Check.same("port " + port + " at tick 32 of the line", lab.step(), 12);
                lab = at(1047, 3000, Lab.with()).put(3000, 237, opcode).setPair(Lab.B, port);
                Check.same("port " + port + " at tick 31 of the line", lab.step(), 12);
                lab = at(1045, 3000, Lab.with()).put(3000, 237, opcode).setPair(Lab.B, port);
                Check.same("port " + port + " at tick 29 of the line", lab.step() - 12, port % 2 == 0 ? 1 : 0);
            }
            for (int opcode : new int[] {211, 219}) {
                Lab lab = at(1025, 3000, Lab.with()).put(3000, opcode, port & 255).set(Lab.A, port >> 8);
                Check.same("port " + port + " by " + opcode, lab.step() - 11, port % 2 == 0 ? 6 : 0);
            }
        }
    }

    /** Where waiting ends is no second beginning: 30 and 31 are not slowed, and 32 is beyond. */
    private static void anAccessThatWaitsIsNotSlowedAgain() {
        int[] due = {10, 8, 8, 8, 4, 4, 4};
        Lab lab = at(1024, 1500, Lab.with());
        for (int k = 0; k < due.length; k++) {
            Check.same("nothing in slowed memory, " + k, lab.step(), due[k]);
        }
        lab = at(1024, 1500, Lab.with()).put(1500, 58, 0, 6);
        Check.same("four slowed accesses", lab.step(), 10 + 3 + slowedFrom(1034) + 3 + slowedFrom(1041) + 3 + 5);
    }

    /** "R as by a fetch, 4 ticks": it is taken in line 0, where nothing is slowed. */
    private static void theInterruptsOwnTicks() {
        Lab lab = Lab.with().set(Lab.PC, 1500).set(Lab.SP, 1500).set(Lab.IFF1, 1);
        Check.same("the interrupt with all in slowed memory", lab.step(), 10);
        lab = Lab.with().set(Lab.PC, 1500).set(Lab.SP, 1500).set(Lab.IFF1, 1).set(Lab.MODE, 2).set(Lab.I, 5);
        Check.same("the same with mode 2", lab.step(), 16);
    }

    /** "A FRAME has 64 LINES of 64 ticks each." */
    private static void framesAndLines() {
        Lab lab = Lab.with().waitUntil(4095);
        Check.same("frames at the last tick", lab.computer.look(0), 0);
        Check.same("the last tick", lab.computer.look(1), 4095);
        lab.step();
        Check.same("frames behind it", lab.computer.look(0), 1);
        Check.same("the tick behind it", lab.computer.look(1), 3);
        lab = Lab.with().waitUntil(4092);
        lab.step();
        Check.same("frames at the first tick", lab.computer.look(0), 1);
        Check.same("the first tick", lab.computer.look(1), 0);
        for (int line = 1; line < 64; line++) {
            lab = Lab.with(211, 254).set(Lab.A, 5);
            lab.step();
            lab.waitUntil(64 * line - 1);
            Check.same("line " + line + " one tick before", lab.computer.stripe(line), 0);
            lab.step();
            Check.same("line " + line + " then", lab.computer.stripe(line), 5);
        }
    }

    /** "-1 (refused) if n is not 1 .. 100" */
    private static void stepsLimits() {
        for (int n : new int[] {1, 2, 99, 100}) {
            Lab lab = Lab.with();
            Check.same("step(" + n + ")", lab.computer.step(n), 4 * n);
            Check.same("PC behind step(" + n + ")", lab.get(Lab.PC), Lab.HOME + n);
            Check.same("the tick behind step(" + n + ")", lab.computer.look(1), 4 * n);
        }
        for (int n : new int[] {0, -1, -100, 101, 102, 256 + 1, 65536 + 1, Integer.MIN_VALUE, Integer.MAX_VALUE}) {
            Lab lab = Lab.with();
            Check.same("step(" + n + ")", lab.computer.step(n), -1);
            Check.same("PC behind step(" + n + ")", lab.get(Lab.PC), Lab.HOME);
            Check.same("the tick behind step(" + n + ")", lab.computer.look(1), 0);
            Check.same("R behind step(" + n + ")", lab.get(Lab.R), 0);
        }
        Lab lab = Lab.with().waitUntil(4000);
        Check.same("step over the frame's end", lab.computer.step(100), 400);
        Check.same("the tick behind it", lab.computer.look(1), 304);
    }

    /** "until the next frame has begun": the shortest way and the longest one. */
    private static void framesEnd() {
        Lab lab = Lab.with(118);
        Check.same("from the first tick on, 4 ticks each", lab.computer.frame(), 1024);
        Check.same("the same again from tick 0", lab.computer.frame(), 1024);
        Check.same("frames", lab.computer.look(0), 2);
        for (int tick = 4085; tick < 4096; tick++) {
            lab = Lab.with(0, 0, 0).waitUntil(tick);
            int due = (4096 - tick + 3) / 4;
            Check.same("from tick " + tick, lab.computer.frame(), due);
            Check.same("PC from tick " + tick, lab.get(Lab.PC), Lab.HOME + due);
            Check.same("the tick from " + tick, lab.computer.look(1), tick + 4 * due - 4096);
        }
        lab = Lab.with(221, 203, 0, 6, 118).waitUntil(4095).set(Lab.X, 3000);
        Check.same("one long instruction over the end", lab.computer.frame(), 1);
        Check.same("the tick behind it", lab.computer.look(1), 19);
    }

    /** "-1 if there is no such line", "a line (0 .. 63)" */
    private static void stripesLimits() {
        Lab lab = Lab.with(211, 254, 118).set(Lab.A, 6);
        lab.computer.frame();
        lab.computer.frame();
        for (int line : new int[] {0, 1, 62, 63}) {
            Check.same("stripe(" + line + ")", lab.computer.stripe(line), 6);
        }
        for (int line : new int[] {-1, -2, 64, 65, 127, 128, 256, Integer.MIN_VALUE, Integer.MAX_VALUE}) {
            Check.same("stripe(" + line + ")", lab.computer.stripe(line), -1);
        }
    }

    /** "(0 if it never did)" */
    private static void linesThatNeverBegan() {
        Lab lab = Lab.with(211, 254, 118).set(Lab.A, 6);
        lab.step();
        lab.waitUntil(64 * 62 + 63);
        Check.same("line 62", lab.computer.stripe(62), 6);
        Check.same("line 63 has not begun yet", lab.computer.stripe(63), 0);
        lab.step();
        Check.same("line 63 has begun", lab.computer.stripe(63), 6);
        Check.same("line 0 began before the colour", lab.computer.stripe(0), 0);
        lab.computer.frame();
        Check.same("line 0 has begun again", lab.computer.stripe(0), 6);
    }

    /** "An object is used for at most 512 calls": the most that can be counted by then. */
    private static void fiveHundredAndTwelveCalls() {
        HomeComputer x = new HomeComputer();
        x.poke(0, 118);
        for (int k = 0; k < 509; k++) {
            Check.same("frame " + k, x.frame(), 1024);
        }
        Check.same("frames of all calls", x.look(0), 509);
        Check.same("the 512th call", x.look(1), 0);
        x = new HomeComputer();
        x.load(0, 0xD3FEEE10, 4);
        x.load(4, 0x18FA0000, 2);
        int ticks = 0;
        for (int k = 0; k < 508; k++) {
            ticks += x.step(100);
        }
        Check.same("edges of all calls", x.look(3), (508 * 100 + 2) / 3 - 1);
        Check.same("the 512th call", x.look(0) * 4096, ticks / 4096 * 4096);
    }
}
