/** Promise 10: HALT and the interrupt. */
final class P10InterruptTest {
    public static void main(String[] args) {
        haltStays();
        haltIsSlowed();
        modes();
        vectors();
        window();
        allowing();
        forbidding();
        twiceInAFrame();
        betweenRepeats();
        notWithinPrefixes();
        endOfHalt();
        Check.end();
    }

    private static void haltStays() {
        for (int[] code : new int[][] {{118}, {221, 118}, {253, 118}}) {
            Lab lab = Lab.with(code).set(Lab.R, 126);
            int behind = Lab.HOME + code.length;
            Check.same("ticks of HALT", lab.step(), 4 * code.length);
            Check.same("PC behind HALT", lab.get(Lab.PC), behind);
            Check.same("HALT lasts", lab.get(Lab.HALTED), 1);
            lab.put(behind, 62, 9);
            Check.same("ticks while it lasts", lab.computer.step(3), 12);
            Check.same("PC stays", lab.get(Lab.PC), behind);
            Check.same("A stays", lab.get(Lab.A), 0);
            Check.same("R grows", lab.get(Lab.R), 126 + 3 + code.length & 127);
        }
    }

    private static void haltIsSlowed() {
        Lab lab = Lab.with(118);
        lab.step();
        lab.set(Lab.PC, 1500).computer.step(100);
        lab.computer.step(100);
        lab.computer.step(55);
        Check.same("tick", lab.computer.look(1), 1024);
        int[] due = {10, 8, 8, 8, 4, 4};
        for (int k = 0; k < due.length; k++) {
            Check.same("HALT in slowed memory, " + k, lab.step(), due[k]);
        }
    }

    private static void modes() {
        for (int mode = 0; mode < 2; mode++) {
            for (int iff2 = 0; iff2 < 2; iff2++) {
                Lab lab = Lab.with(62, 9).set(Lab.MODE, mode).set(Lab.IFF1, 1).set(Lab.IFF2, iff2);
                lab.set(Lab.R, 255).set(Lab.F, 77);
                Check.same("ticks of the interrupt", lab.step(), 10);
                Check.same("PC", lab.get(Lab.PC), 56);
                Check.same("SP", lab.get(Lab.SP), 3998);
                Check.same("stack", lab.peek(3998) + 256 * lab.peek(3999), Lab.HOME);
                Check.same("IFF1", lab.get(Lab.IFF1), 0);
                Check.same("IFF2", lab.get(Lab.IFF2), 0);
                Check.same("R", lab.get(Lab.R), 128);
                Check.same("F", lab.get(Lab.F), 77);
                Check.same("A", lab.get(Lab.A), 0);
                Check.same("mode", lab.get(Lab.MODE), mode);
            }
        }
        Lab lab = Lab.with(62, 9).set(Lab.IFF2, 1);
        Check.same("IFF2 alone takes none", lab.step(), 7);
    }

    private static void vectors() {
        for (int i : new int[] {0, 3, 9, 200, 255}) {
            Lab lab = Lab.with(62, 9).set(Lab.MODE, 2).set(Lab.I, i).set(Lab.IFF1, 1);
            lab.put(i * 256 + 255, 0x78, 0x9A);
            Check.same("ticks with mode 2", lab.step(), 16);
            Check.same("PC with I = " + i, lab.get(Lab.PC), 0x9A78);
            Check.same("stack", lab.peek(3998) + 256 * lab.peek(3999), Lab.HOME);
            Check.same("SP", lab.get(Lab.SP), 3998);
        }
    }

    private static void window() {
        for (int tick : new int[] {7, 8, 30, 31, 32, 33, 100, 4095}) {
            Lab lab = Lab.with(62, 9).waitUntil(tick).set(Lab.IFF1, 1);
            lab.step();
            boolean taken = tick < 32;
            Check.same("PC at tick " + tick, lab.get(Lab.PC), taken ? 56 : Lab.HOME + 2);
            Check.same("IFF1 at tick " + tick, lab.get(Lab.IFF1), taken ? 0 : 1);
        }
        Lab lab = Lab.with(62, 9, 62, 8).waitUntil(4092).set(Lab.IFF1, 1);
        Check.same("ticks over the frame's edge", lab.step(), 7);
        Check.same("no interrupt within an instruction", lab.get(Lab.A), 9);
        Check.same("the interrupt behind it", lab.step(), 10);
        Check.same("PC", lab.get(Lab.PC), 56);
    }

    private static void allowing() {
        Lab lab = Lab.with(251, 60, 60);
        Check.same("ticks of allowing", lab.step(), 4);
        Check.same("IFF1", lab.get(Lab.IFF1), 1);
        Check.same("IFF2", lab.get(Lab.IFF2), 1);
        lab.step();
        Check.same("the next instruction is done", lab.get(Lab.A), 1);
        lab.step();
        Check.same("then the interrupt", lab.get(Lab.PC), 56);
        Check.same("where it came from", lab.peek(3998), Lab.HOME + 2 & 255);
        lab = Lab.with(251, 251, 251, 251, 60);
        lab.computer.step(5);
        Check.same("each one puts it off", lab.get(Lab.A), 1);
        lab.step();
        Check.same("then the interrupt", lab.get(Lab.PC), 56);
        lab = Lab.with(251, 60).set(Lab.IFF1, 1);
        lab.step();
        Check.same("allowed before already: the interrupt comes first", lab.get(Lab.PC), 56);
        lab = Lab.with(251, 118, 60);
        lab.computer.step(2);
        Check.same("HALT behind it", lab.get(Lab.HALTED), 1);
        lab.step();
        Check.same("the interrupt ends HALT", lab.get(Lab.HALTED), 0);
        Check.same("PC behind HALT is pushed", lab.peek(3998), Lab.HOME + 2 & 255);
    }

    private static void forbidding() {
        Lab lab = Lab.with(251, 243, 60, 60);
        lab.computer.step(4);
        Check.same("forbidden at once", lab.get(Lab.A), 2);
        Check.same("IFF1", lab.get(Lab.IFF1), 0);
        Check.same("IFF2", lab.get(Lab.IFF2), 0);
        lab = Lab.with(243).waitUntil(50).set(Lab.IFF1, 1).set(Lab.IFF2, 1);
        Check.same("ticks of forbidding", lab.step(), 4);
        Check.same("IFF1", lab.get(Lab.IFF1), 0);
        Check.same("IFF2", lab.get(Lab.IFF2), 0);
    }

    private static void twiceInAFrame() {
        Lab lab = Lab.with(60).put(56, 251, 0, 0).set(Lab.IFF1, 1);
        Check.same("interrupt, allowing, nothing", lab.computer.step(3), 18);
        Check.same("the interrupt again", lab.step(), 10);
        Check.same("where it came from", lab.peek(3996) + 256 * lab.peek(3997), 58);
        Check.same("the tick", lab.computer.look(1), 28);
        lab.computer.step(2);
        Check.same("no third one, it is too late", lab.step(), 4);
    }

    private static void betweenRepeats() {
        Lab lab = Lab.with(237, 176).setPair(Lab.B, 9).setPair(Lab.H, 3000).setPair(Lab.D, 3100).waitUntil(4095);
        lab.set(Lab.IFF1, 1).computer.step(2);
        Check.same("PC", lab.get(Lab.PC), 56);
        Check.same("the repeat is not over", lab.peek(3998) + 256 * lab.peek(3999), Lab.HOME);
        Check.same("BC", lab.pair(Lab.B), 8);
    }

    private static void notWithinPrefixes() {
        Lab lab = Lab.with(221, 221, 33, 5, 0, 60).waitUntil(4095).set(Lab.IFF1, 1);
        Check.same("ticks of an instruction with prefixes", lab.step(), 18);
        Check.same("X", lab.get(Lab.X), 5);
        Check.same("the interrupt behind it", lab.step(), 10);
        Check.same("where it came from", lab.peek(3998), Lab.HOME + 5 & 255);
        lab = Lab.with(221, 221, 221, 221, 60).waitUntil(4095).set(Lab.IFF1, 1);
        Check.same("ticks of four prefixes", lab.step(), 16);
        Check.same("the interrupt behind them", lab.step(), 10);
        Check.same("where it came from", lab.peek(3998), Lab.HOME + 4 & 255);
    }

    private static void endOfHalt() {
        Lab lab = Lab.with(118, 60).put(56, 237, 77).waitUntil(100).set(Lab.IFF1, 1);
        lab.computer.frame();
        Check.same("HALT lasts to the frame's end", lab.get(Lab.HALTED), 1);
        Check.same("ticks of the interrupt", lab.step(), 10);
        Check.same("HALT has ended", lab.get(Lab.HALTED), 0);
        lab.step();
        Check.same("back behind HALT", lab.get(Lab.PC), Lab.HOME + 1);
        lab.step();
        Check.same("and on", lab.get(Lab.A), 1);
        lab = Lab.with(118, 60).waitUntil(100);
        lab.computer.frame();
        lab.computer.step(5);
        Check.same("without IFF1 it does not end", lab.get(Lab.HALTED), 1);
    }
}
