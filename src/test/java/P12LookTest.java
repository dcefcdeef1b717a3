/** Promise 12: look (the tape's level and pulses: P09TapeTest). */
final class P12LookTest {
    public static void main(String[] args) {
        for (int what : new int[] {-1, -2, 7, 8, 256, Integer.MAX_VALUE, Integer.MIN_VALUE}) {
            Lab lab = Lab.with(62, 21, 211, 254);
            lab.computer.step(2);
            String before = lab.state();
            Check.same("look(" + what + ")", lab.computer.look(what), -1);
            Check.same("state after look(" + what + ")", lab.state(), before);
        }
        framesAndTicks();
        borderAndSpeaker();
        tape();
        Check.end();
    }

    private static void framesAndTicks() {
        Lab lab = Lab.with(118);
        int ticks = 0;
        for (int k = 0; k < 120; k++) {
            ticks += lab.computer.step(100);
            Check.same("frames after " + ticks, lab.computer.look(0), ticks / 4096);
            Check.same("tick after " + ticks, lab.computer.look(1), ticks % 4096);
        }
    }

    private static void borderAndSpeaker() {
        Lab lab = Lab.with(62, 21, 211, 254, 62, 2, 211, 252);
        lab.step();
        Check.same("border before", lab.computer.look(2), 0);
        lab.step();
        Check.same("border", lab.computer.look(2), 5);
        Check.same("edges", lab.computer.look(3), 1);
        lab.computer.step(2);
        Check.same("border", lab.computer.look(2), 2);
        Check.same("edges", lab.computer.look(3), 2);
    }

    private static void tape() {
        Lab lab = Lab.with(118);
        lab.computer.pulse(6);
        lab.computer.pulse(3);
        lab.computer.tape(1);
        int[][] due = {{0, 1, 0}, {0, 1, 0}, {1, 1, 1}, {0, 0, 2}, {0, 0, 2}};
        for (int k = 0; k < due.length; k++) {
            for (int what = 4; what <= 6; what++) {
                Check.same("look(" + what + ") after " + 4 * k, lab.computer.look(what), due[k][what - 4]);
            }
            lab.step();
        }
    }
}
