/** Promise 13: stripe. */
final class P13StripeTest {
    public static void main(String[] args) {
        for (int line : new int[] {-1, -64, 64, 65, 128, Integer.MAX_VALUE, Integer.MIN_VALUE}) {
            Lab lab = written(7, 100);
            Check.same("stripe(" + line + ")", lab.computer.stripe(line), -1);
        }
        beforeAndBehind();
        atALinesBeginning();
        atAFramesBeginning();
        slowedWrites();
        linesOfTheLastFrame();
        oddPorts();
        Check.end();
    }

    /** A computer at HALT that has written a colour by an instruction of 11 ticks, its end at this tick. */
    private static Lab written(int colour, int tick) {
        Lab lab = Lab.with(211, 254, 118).waitUntil(tick - 11).set(Lab.A, colour);
        Check.same("ticks of the write", lab.step(), 11);
        return lab;
    }

    private static void beforeAndBehind() {
        Lab lab = written(3, 64 * 5 + 40);
        for (int line = 0; line < 64; line++) {
            Check.same("line " + line + " at once", lab.computer.stripe(line), 0);
        }
        lab.waitUntil(64 * 9);
        for (int line = 0; line < 64; line++) {
            Check.same("line " + line + " at line 9", lab.computer.stripe(line), line >= 6 && line <= 9 ? 3 : 0);
        }
        lab.computer.frame();
        for (int line = 0; line < 64; line++) {
            Check.same("line " + line + " at the end", lab.computer.stripe(line), line >= 1 && line <= 5 ? 0 : 3);
        }
    }

    private static void atALinesBeginning() {
        for (int line : new int[] {1, 2, 15, 48, 63}) {
            for (int late = -5; late <= 6; late++) {
                Lab lab = written(6, 64 * line + late);
                lab.computer.step(4);
                String name = "line " + line + ", the write's end " + late + " behind its beginning";
                Check.same(name, lab.computer.stripe(line), late <= 0 ? 6 : 0);
                Check.same("the line before, " + name, lab.computer.stripe(line - 1), 0);
            }
        }
    }

    private static void atAFramesBeginning() {
        for (int late = -3; late <= 4; late++) {
            Lab lab = written(5, 4096 + late);
            lab.computer.step(3);
            Check.same("line 0, the write's end " + late + " behind", lab.computer.stripe(0), late <= 0 ? 5 : 0);
            Check.same("line 63", lab.computer.stripe(63), 0);
            Check.same("frames begun", lab.computer.look(0), 1);
        }
    }

    /** Slowed or not, the colour holds from the end of the access on. */
    private static void slowedWrites() {
        for (int t = 64 + 30; t < 128; t++) {
            Lab lab = Lab.with(211, 254, 118).waitUntil(64 * 16 + t).set(Lab.A, 4);
            int end = t + 7 + P10StepTest.delay(64 * 16 + t + 7) + 4;
            Check.same("ticks of a write at " + t, lab.step(), end - t);
            lab.computer.step(40);
            Check.same("line 18 by a write at " + t, lab.computer.stripe(18), end <= 128 ? 4 : 0);
            Check.same("line 17 by a write at " + t, lab.computer.stripe(17), 0);
            Check.same("line 19 by a write at " + t, lab.computer.stripe(19), 4);
        }
    }

    private static void linesOfTheLastFrame() {
        Lab lab = Lab.with(211, 254, 118).set(Lab.A, 1);
        lab.computer.step(2);
        lab.computer.frame();
        Check.same("line 0 of the second frame", lab.computer.stripe(0), 1);
        Check.same("line 63 of the first frame", lab.computer.stripe(63), 1);
        lab = Lab.with(211, 254, 60, 24, 251);
        for (int k = 0; k < 3; k++) {
            lab.computer.frame();
        }
        int[] due = new int[64];
        int tick = 0;
        int a = 0;
        while (tick < 3 * 4096) {
            int end = tick + 7 + P10StepTest.delay((tick + 7) % 4096) + 4;
            end = note(due, tick, end, a - 1 & 7, a & 7);
            end = note(due, end, end + 4, a & 7, a & 7);
            tick = end < 3 * 4096 ? note(due, end, end + 7, a & 7, a & 7) : end;
            a++;
        }
        for (int line = 0; line < 64; line++) {
            Check.same("line " + line + " after three frames", lab.computer.stripe(line), due[line]);
        }
    }

    /** Notes the colours of lines that begin behind one tick and up to another, where the colour changes. */
    private static int note(int[] due, int from, int to, int before, int at) {
        for (int tick = from + 1; tick <= to; tick++) {
            if (tick % 64 == 0) {
                due[tick / 64 % 64] = tick < to ? before : at;
            }
        }
        return to;
    }

    private static void oddPorts() {
        Lab lab = Lab.with(211, 255, 118).set(Lab.A, 7);
        lab.computer.frame();
        Check.same("line 9 by an odd port", lab.computer.stripe(9), 0);
    }
}
