/** Promise 10: step itself, and the time that accesses take. */
final class P10StepTest {
    public static void main(String[] args) {
        refusals();
        counts();
        slowedFetch();
        slowedPlaces();
        slowedPorts();
        slowedOneAfterTheOther();
        Check.end();
    }

    private static void refusals() {
        for (int n : new int[] {0, -1, 101, 102, 1000, Integer.MAX_VALUE, Integer.MIN_VALUE}) {
            Lab lab = Lab.with(62, 5);
            String before = lab.state();
            Check.same("step(" + n + ")", lab.computer.step(n), -1);
            Check.same("state after step(" + n + ")", lab.state(), before);
        }
    }

    private static void counts() {
        Lab lab = Lab.with(62, 5, 60, 60, 60);
        Check.same("step(1)", lab.computer.step(1), 7);
        Check.same("PC", lab.get(Lab.PC), Lab.HOME + 2);
        Check.same("step(3)", lab.computer.step(3), 12);
        Check.same("A", lab.get(Lab.A), 8);
        Check.same("step(100)", lab.computer.step(100), 400);
        Check.same("PC after all", lab.get(Lab.PC), Lab.HOME + 105);
        Check.same("R after all", lab.get(Lab.R), 104);
        Check.same("look(1)", lab.computer.look(1), 419);
        lab.set(Lab.PC, 65534).set(Lab.R, 254);
        lab.computer.step(3);
        Check.same("PC wraps", lab.get(Lab.PC), 1);
        Check.same("R's highest bit stays", lab.get(Lab.R), 129);
    }

    /** The ticks that an access waits that is to begin at this tick of the frame. */
    static int delay(int tick) {
        int line = tick / 64;
        int t = tick % 64;
        int[] later = {6, 5, 4, 3, 2, 1, 0, 0};
        return line >= 16 && line <= 47 && t < 32 ? later[t % 8] : 0;
    }

    private static void slowedFetch() {
        int[] lines = {1, 15, 16, 17, 31, 46, 47, 48, 63};
        for (int line : lines) {
            for (int t = 0; t < 64; t++) {
                int tick = line * 64 + t;
                Lab lab = Lab.with().waitUntil(tick);
                lab.set(Lab.PC, 1500);
                Check.same("fetch at tick " + tick, lab.step(), 4 + delay(tick));
            }
        }
    }

    private static void slowedPlaces() {
        int[] addresses = {0, 1023, 1024, 1025, 2046, 2047, 2048, 3071, 3072, 4095,
            4096 + 1023, 4096 + 1024, 4096 + 2047, 4096 + 2048, 61440 + 1024, 61440 + 2048};
        for (int address : addresses) {
            int place = address % 4096;
            int due = place >= 1024 && place <= 2047 ? 6 : 0;
            Lab lab = Lab.with().waitUntil(16 * 64);
            lab.put(address, 0).set(Lab.PC, address);
            Check.same("fetch at " + address, lab.step(), 4 + due);
            lab = Lab.with().waitUntil(16 * 64 + 4);
            lab.put(3000, 126).set(Lab.PC, 3000).setPair(Lab.H, address);
            Check.same("reading at " + address, lab.step(), 7 + due);
            lab = Lab.with().waitUntil(16 * 64 + 4);
            lab.put(3000, 119).set(Lab.PC, 3000).setPair(Lab.H, address);
            Check.same("writing at " + address, lab.step(), 7 + due);
        }
    }

    private static void slowedPorts() {
        for (int port : new int[] {0, 1, 2, 254, 255, 1024, 1025, 65534, 65535}) {
            int due = port % 2 == 0 ? 6 : 0;
            for (int opcode : new int[] {120, 121}) {
                Lab lab = Lab.with().waitUntil(20 * 64);
                lab.put(3000, 237, opcode).set(Lab.PC, 3000).setPair(Lab.B, port);
                Check.same("port " + port + " by " + opcode, lab.step(), 12 + due);
                lab = Lab.with().waitUntil(20 * 64 + 24);
                lab.put(3000, 237, opcode).set(Lab.PC, 3000).setPair(Lab.B, port);
                Check.same("port " + port + " too late to be slowed", lab.step(), 12);
                lab = Lab.with();
                lab.put(3000, 237, opcode).set(Lab.PC, 3000).setPair(Lab.B, port);
                Check.same("port " + port + " in a line that is not slowed", lab.step(), 12);
            }
        }
    }

    /** Each access is slowed by itself: where the accesses of an instruction lie is their order, too. */
    private static void slowedOneAfterTheOther() {
        int start = 16 * 64;
        order("CALL", start, 1500, 1700, "fbbbb", 205, 0, 12);
        order("CALL from fast into slow", start, 2500, 1700, "F..bb", 205, 0, 12);
        order("PUSH over the upper edge", start, 2500, 2049, "F.b", 197);
        order("PUSH over the lower edge", start, 2500, 1025, "Fb.", 197);
        order("POP over the upper edge", start, 2500, 2047, "Fb.", 193);
        order("POP over the lower edge", start, 2500, 1023, "F.b", 193);
        order("the top of the stack exchanged", start, 2500, 2047, "Fb.b.", 227);
        order("storing HL", start, 2500, 4000, "F..b.", 34, 255, 7);
        order("taking HL", start, 2500, 4000, "F...b", 42, 255, 3);
        order("storing a byte at X + d", start, 2500, 4000, "FF..b", 221, 54, 5, 9);
        order("the same from slow memory", start, 1500, 4000, "ffbbb", 221, 54, 5, 9);
        order("turning a byte at X + d", start, 1500, 4000, "ffbbbb", 221, 203, 5, 6);
        order("INC of a byte at X + d", start, 2500, 4000, "FF.bb", 221, 52, 5);
        order("moving from slow to fast", start, 2500, 4000, "FFb.", 237, 160);
        order("OUT", start, 1500, 4000, "fbp", 211, 254);
        order("OUT of an odd port", start, 1500, 4000, "fbP", 211, 253);
        order("turning twelve bits", start, 2500, 4000, "FFbb", 237, 103);
        order("RETURN", start, 1500, 1700, "fbb", 201);
        order("a jump that is not taken", start, 1500, 1700, "fb", 56, 9);
        order("a call that is not done", start, 1500, 1700, "fbb", 220, 0, 12);
        order("LD BC from memory", start, 2500, 1700, "FF..b.", 237, 75, 255, 7);
    }

    /**
     * One letter for each access: f fetches, b is another byte, p a port, slowed all of them;
     * F, a point and P are the same where nothing is slowed.
     */
    private static void order(String name, int start, int pc, int sp, String accesses, int... code) {
        for (int t = 0; t < 40; t++) {
            Lab lab = Lab.with().waitUntil(start + t);
            lab.put(pc, code).set(Lab.PC, pc).set(Lab.SP, sp).set(Lab.X, 1600);
            lab.setPair(Lab.H, 1800).setPair(Lab.D, 3000);
            int tick = start + t;
            for (char access : accesses.toCharArray()) {
                tick += "fbp".indexOf(access) >= 0 ? delay(tick) : 0;
                tick += "b.".indexOf(access) >= 0 ? 3 : 4;
            }
            Check.same(name + " at " + t, lab.step(), tick - start - t);
        }
    }
}
