/** Promise 8: pulse. */
final class P08PulseTest {
    public static void main(String[] args) {
        for (int ticks : new int[] {0, -1, 10001, 65536 + 5, Integer.MAX_VALUE, Integer.MIN_VALUE}) {
            HomeComputer x = new HomeComputer();
            Check.no("pulse(" + ticks + ")", x.pulse(ticks));
            Check.no("nothing to play after pulse(" + ticks + ")", x.tape(1));
        }
        for (int ticks : new int[] {1, 2, 9999, 10000}) {
            HomeComputer x = new HomeComputer();
            Check.yes("pulse(" + ticks + ")", x.pulse(ticks));
            Check.yes("it plays", x.tape(1));
        }
        forty();
        notWhileItPlays();
        theirOrder();
        Check.end();
    }

    private static void forty() {
        Lab lab = Lab.with();
        for (int k = 0; k < 40; k++) {
            Check.yes("pulse " + k, lab.computer.pulse(1));
        }
        Check.no("the forty-first", lab.computer.pulse(1));
        Check.no("one more", lab.computer.pulse(10000));
        lab.computer.tape(1);
        lab.computer.step(9);
        Check.same("over of forty after 36 ticks", lab.computer.look(6), 36);
        Check.same("still playing", lab.computer.look(5), 1);
        lab.step();
        Check.same("over of forty after 40 ticks", lab.computer.look(6), 40);
        Check.same("no longer playing", lab.computer.look(5), 0);
        Check.no("still forty are there", lab.computer.pulse(1));
        lab.computer.tape(2);
        Check.yes("room again", lab.computer.pulse(1));
    }

    private static void notWhileItPlays() {
        Lab lab = Lab.with();
        lab.computer.pulse(8);
        lab.computer.tape(1);
        Check.no("while it plays", lab.computer.pulse(5));
        lab.step();
        Check.no("while it still plays", lab.computer.pulse(5));
        lab.step();
        Check.yes("with the last pulse's end it has stopped", lab.computer.pulse(5));
        Check.same("the appended one is not over", lab.computer.look(6), 1);
        Check.same("the level stays", lab.computer.look(4), 1);
        lab.computer.tape(1);
        lab.computer.tape(0);
        Check.yes("when stopped", lab.computer.pulse(5));
    }

    private static void theirOrder() {
        Lab lab = Lab.with();
        int[] pulses = {3, 4, 5, 10, 2, 1};
        int[] overAfterStep = {1, 2, 3, 3, 3, 5, 6, 6};
        for (int ticks : pulses) {
            lab.computer.pulse(ticks);
        }
        lab.computer.tape(1);
        for (int k = 0; k < overAfterStep.length; k++) {
            lab.step();
            Check.same("over after " + (4 * k + 4) + " ticks", lab.computer.look(6), overAfterStep[k]);
        }
    }
}
