/** Promise 9: tape. */
final class P09TapeTest {
    public static void main(String[] args) {
        refusals();
        playing();
        playingAgain();
        stopping();
        takingAway();
        whatThePortReads();
        theLongestTape();
        Check.end();
    }

    private static void looks(String when, Lab lab, int level, int plays, int over) {
        Check.same("level " + when, lab.computer.look(4), level);
        Check.same("playing " + when, lab.computer.look(5), plays);
        Check.same("over " + when, lab.computer.look(6), over);
    }

    private static Lab withPulses(int... pulses) {
        Lab lab = Lab.with();
        for (int ticks : pulses) {
            lab.computer.pulse(ticks);
        }
        return lab;
    }

    private static void refusals() {
        for (int what : new int[] {-1, 3, 4, 256, 257, Integer.MAX_VALUE, Integer.MIN_VALUE}) {
            Lab lab = withPulses(4, 4, 4);
            lab.computer.tape(1);
            lab.step();
            String before = lab.state();
            Check.no("tape(" + what + ")", lab.computer.tape(what));
            Check.same("state after tape(" + what + ")", lab.state(), before);
            looks("after tape(" + what + ")", lab, 1, 1, 1);
        }
        Lab lab = Lab.with();
        Check.no("tape(1) without pulses", lab.computer.tape(1));
        looks("of an empty tape", lab, 0, 0, 0);
        Check.yes("tape(0) of an empty tape", lab.computer.tape(0));
        Check.yes("tape(2) of an empty tape", lab.computer.tape(2));
        looks("still", lab, 0, 0, 0);
    }

    private static void playing() {
        Lab lab = withPulses(8, 12, 4);
        lab.computer.step(10);
        looks("before it plays", lab, 0, 0, 0);
        Check.yes("tape(1)", lab.computer.tape(1));
        int[][] due = {{0, 1, 0}, {0, 1, 0}, {1, 1, 1}, {1, 1, 1}, {1, 1, 1}, {0, 1, 2}, {1, 0, 3}, {1, 0, 3}};
        for (int k = 0; k < due.length; k++) {
            looks("after " + 4 * k + " ticks", lab, due[k][0], due[k][1], due[k][2]);
            lab.step();
        }
        Check.yes("tape(0) when it is over", lab.computer.tape(0));
        looks("then", lab, 1, 0, 3);
    }

    private static void playingAgain() {
        Lab lab = withPulses(8, 8);
        lab.computer.tape(1);
        lab.computer.step(3);
        looks("in the second pulse", lab, 1, 1, 1);
        Check.yes("tape(1) while it plays", lab.computer.tape(1));
        looks("begun again", lab, 0, 1, 0);
        lab.step();
        looks("4 ticks after", lab, 0, 1, 0);
        lab.step();
        looks("8 ticks after", lab, 1, 1, 1);
        lab.computer.step(2);
        looks("at the end", lab, 0, 0, 2);
        Check.yes("tape(1) after the end", lab.computer.tape(1));
        looks("begun a third time", lab, 0, 1, 0);
        lab.computer.step(100);
        looks("long after", lab, 0, 0, 2);
    }

    private static void stopping() {
        Lab lab = withPulses(4, 100, 100);
        lab.computer.tape(1);
        lab.computer.step(2);
        Check.yes("tape(0)", lab.computer.tape(0));
        looks("when stopped", lab, 1, 0, 1);
        lab.computer.step(100);
        looks("a while later", lab, 1, 0, 1);
        Check.yes("tape(0) again", lab.computer.tape(0));
        looks("when stopped again", lab, 1, 0, 1);
        lab.computer.tape(1);
        looks("begun anew", lab, 0, 1, 0);
        lab.computer.step(26);
        looks("two are over", lab, 0, 1, 2);
    }

    private static void takingAway() {
        Lab lab = withPulses(4, 100);
        lab.computer.tape(1);
        lab.step();
        Check.yes("tape(2)", lab.computer.tape(2));
        looks("when empty", lab, 0, 0, 0);
        Check.no("nothing to play", lab.computer.tape(1));
        Check.yes("a new pulse", lab.computer.pulse(12));
        looks("with a new pulse", lab, 0, 0, 0);
        Check.yes("it plays", lab.computer.tape(1));
        lab.computer.step(2);
        looks("before its end", lab, 0, 1, 0);
        lab.step();
        looks("at its end", lab, 1, 0, 1);
    }

    /** IN A,(254): the access to the port begins 7 ticks after the instruction. */
    private static void whatThePortReads() {
        for (int ticks = 5; ticks <= 12; ticks++) {
            Lab lab = withPulses(ticks, 10000);
            lab.put(Lab.HOME, 219, 254).computer.tape(1);
            lab.step();
            Check.same("bit 64, pulse of " + ticks, lab.get(Lab.A) & 64, ticks <= 7 ? 64 : 0);
            Check.same("level behind the access, pulse of " + ticks, lab.computer.look(4), ticks <= 11 ? 1 : 0);
        }
        Lab lab = withPulses(3, 3);
        lab.put(Lab.HOME, 219, 254).computer.tape(1);
        lab.step();
        Check.same("low again", lab.get(Lab.A), 191);
        whatASlowedAccessReads();
    }

    /** The access would begin at tick 1032 of the frame, which is 8 of line 16: it begins 6 ticks later. */
    private static void whatASlowedAccessReads() {
        for (int ticks = 5; ticks <= 16; ticks++) {
            Lab lab = withPulses(ticks, 10000);
            lab.put(3000, 219, 254).set(Lab.PC, 3000).waitUntil(1025);
            lab.computer.tape(1);
            Check.same("ticks of a slowed one", lab.step(), 17);
            Check.same("bit 64 slowed, pulse of " + ticks, lab.get(Lab.A) & 64, ticks <= 13 ? 64 : 0);
        }
    }

    private static void theLongestTape() {
        Lab lab = withPulses();
        for (int k = 0; k < 40; k++) {
            Check.yes("a long pulse", lab.computer.pulse(10000));
        }
        lab.put(Lab.HOME, 24, 254).computer.tape(1);
        for (int k = 1; k <= 97; k++) {
            lab.computer.frame();
            if (k % 4 == 1) {
                int ticks = lab.computer.look(0) * 4096 + lab.computer.look(1);
                looks("after " + ticks + " ticks", lab, ticks / 10000 & 1, 1, ticks / 10000);
            }
        }
        lab.computer.frame();
        looks("after all", lab, 0, 0, 40);
    }
}
