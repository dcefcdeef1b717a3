/** Promise 11: frame. */
final class P11FrameTest {
    public static void main(String[] args) {
        wholeFrames();
        fromTheMiddle();
        longInstructions();
        interruptsCount();
        noMoreThanOneFrame();
        Check.end();
    }

    private static void wholeFrames() {
        Lab lab = Lab.with(118);
        for (int k = 1; k <= 40; k++) {
            Check.same("frame " + k, lab.computer.frame(), 1024);
            Check.same("frames begun", lab.computer.look(0), k);
            Check.same("tick", lab.computer.look(1), 0);
        }
    }

    private static void fromTheMiddle() {
        for (int tick : new int[] {4, 7, 100, 2048, 4091, 4092, 4093, 4095}) {
            Lab lab = Lab.with(118).waitUntil(tick);
            int due = (4096 - tick + 3) / 4;
            Check.same("frame from tick " + tick, lab.computer.frame(), due);
            Check.same("tick after it", lab.computer.look(1), (tick + 4 * due) % 4096);
            Check.same("frames begun", lab.computer.look(0), 1);
        }
    }

    private static void longInstructions() {
        Lab lab = Lab.with(24, 254);
        Check.same("frame of 7 ticks each", lab.computer.frame(), 586);
        Check.same("tick", lab.computer.look(1), 6);
        Check.same("the next one", lab.computer.frame(), 585);
        Check.same("tick", lab.computer.look(1), 5);
        lab = Lab.with(118).set(Lab.PC, 1500);
        lab.put(1500, 24, 254);
        Check.same("frame in slowed memory", lab.computer.frame(), slowedLoops());
    }

    /** How often two accesses of 4, 3 and 3 ticks that are slowed fit into a frame, begun ones too. */
    private static int slowedLoops() {
        int tick = 0;
        int done = 0;
        while (tick < 4096) {
            tick += P10StepTest.delay(tick) + 4;
            tick += P10StepTest.delay(tick) + 3;
            done++;
        }
        return done;
    }

    private static void interruptsCount() {
        Lab lab = Lab.with(118).put(56, 24, 254).set(Lab.IFF1, 1);
        Check.same("frame with an interrupt first", lab.computer.frame(), 1 + (4096 - 10 + 6) / 7);
        Check.same("PC", lab.get(Lab.PC), 56);
    }

    private static void noMoreThanOneFrame() {
        Lab lab = Lab.with(24, 254).waitUntil(4095);
        Check.same("one instruction ends the frame", lab.computer.frame(), 1);
        Check.same("tick", lab.computer.look(1), 6);
        Check.same("frames begun", lab.computer.look(0), 1);
    }
}
