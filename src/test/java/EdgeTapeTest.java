/** The edges of the tape: lengths, numbers of pulses, and the ticks at which they end. */
final class EdgeTapeTest {
    public static void main(String[] args) {
        lengths();
        theShortestAndTheLongest();
        numbers();
        thirtyNineFortyFortyOne();
        whatNumbers();
        emptyTape();
        theTickOfAnEnd();
        thePortAtThatTick();
        thePortAfterBeingSlowed();
        theLastEnd();
        endsWithinOneInstruction();
        beginningWhilePlaying();
        beginningInTheMiddleOfAFrame();
        stoppingAtAnEnd();
        takingAwayFromAFullTape();
        appendingBehindTheEnd();
        Check.end();
    }

    private static Lab withPulses(int... pulses) {
        Lab lab = Lab.with();
        for (int ticks : pulses) {
            Check.yes("pulse(" + ticks + ")", lab.computer.pulse(ticks));
        }
        return lab;
    }

    private static void looks(String when, Lab lab, int level, int plays, int over) {
        Check.same("level " + when, lab.computer.look(4), level);
        Check.same("playing " + when, lab.computer.look(5), plays);
        Check.same("over " + when, lab.computer.look(6), over);
    }

    /** "if it is not 1 .. 10000" */
    private static void lengths() {
        int[] taken = {1, 2, 255, 256, 9999, 10000};
        int[] refused = {0, -1, -10000, 10001, 10002, 65536, 65537, 1 << 24 | 5, Integer.MIN_VALUE, Integer.MAX_VALUE};
        for (int ticks : taken) {
            HomeComputer x = new HomeComputer();
            Check.yes("pulse(" + ticks + ")", x.pulse(ticks));
            Check.yes("it can be played", x.tape(1));
        }
        for (int ticks : refused) {
            HomeComputer x = new HomeComputer();
            Check.no("pulse(" + ticks + ")", x.pulse(ticks));
            Check.no("there is nothing to play", x.tape(1));
        }
    }

    private static void theShortestAndTheLongest() {
        Lab lab = withPulses(1, 10000, 1);
        lab.put(Lab.HOME, 6, 0, 6, 0);
        lab.computer.tape(1);
        lab.step();
        looks("after 7 ticks", lab, 1, 1, 1);
        lab.set(Lab.PC, 3000);
        for (int k = 0; k < 24; k++) {
            lab.computer.step(100);
            lab.set(Lab.PC, 3000);
        }
        lab.computer.step(98);
        looks("after 9999 ticks", lab, 1, 1, 1);
        lab.step();
        looks("after 10003 ticks", lab, 1, 0, 3);
        for (int late = -1; late <= 1; late++) {
            lab = withPulses(10000, 10000);
            int odd = -(10000 + late) & 3;
            for (int k = 0; k < odd; k++) {
                lab.put(Lab.HOME + 2 * k, 6, 0);
            }
            lab.computer.tape(1);
            int ticks = odd == 0 ? 0 : lab.computer.step(odd);
            while (ticks < 10000 + late) {
                lab.set(Lab.PC, 3000);
                ticks += lab.computer.step(Math.min(100, (10000 + late - ticks) / 4));
            }
            Check.same("ticks", ticks, 10000 + late);
            looks("at 10000 and " + late, lab, late < 0 ? 0 : 1, 1, late < 0 ? 0 : 1);
        }
    }

    /** "Appends a pulse to the tape": in their order, none before. */
    private static void numbers() {
        for (int count = 1; count <= 40; count++) {
            Lab lab = Lab.with();
            for (int k = 0; k < count; k++) {
                Check.yes("pulse " + k + " of " + count, lab.computer.pulse(4));
            }
            Check.same("none is over before it plays", lab.computer.look(6), 0);
            lab.computer.tape(1);
            if (count > 1) {
                lab.computer.step(count - 1);
            }
            looks("before the last of " + count, lab, count - 1 & 1, 1, count - 1);
            lab.step();
            looks("behind the last of " + count, lab, count & 1, 0, count);
            lab.step();
            looks("later", lab, count & 1, 0, count);
        }
    }

    /** "at most 40 PULSES", "forty are there" */
    private static void thirtyNineFortyFortyOne() {
        Lab lab = Lab.with();
        for (int k = 0; k < 39; k++) {
            Check.yes("pulse " + k, lab.computer.pulse(4));
        }
        Check.no("a refused length takes no room", lab.computer.pulse(0));
        Check.no("a refused length takes no room", lab.computer.pulse(10001));
        Check.yes("the fortieth", lab.computer.pulse(8));
        Check.no("the forty-first", lab.computer.pulse(1));
        Check.no("the forty-second", lab.computer.pulse(10000));
        lab.computer.tape(1);
        Check.no("one while it plays", lab.computer.pulse(4));
        lab.computer.step(40);
        looks("in the fortieth", lab, 1, 1, 39);
        lab.step();
        looks("behind the fortieth", lab, 0, 0, 40);
        Check.no("forty are there still", lab.computer.pulse(4));
    }

    /** "or another number" */
    private static void whatNumbers() {
        for (int what : new int[] {-1, -2, 3, 4, 255, 256, 257, 65537, Integer.MIN_VALUE, Integer.MAX_VALUE}) {
            Lab lab = withPulses(4, 4, 4);
            Check.no("tape(" + what + ")", lab.computer.tape(what));
            looks("after tape(" + what + ")", lab, 0, 0, 0);
            lab.computer.tape(1);
            lab.step();
            Check.no("tape(" + what + ") while it plays", lab.computer.tape(what));
            looks("after tape(" + what + ") while it plays", lab, 1, 1, 1);
            lab.step();
            looks("a tick later", lab, 0, 1, 2);
        }
    }

    /** "1 without pulses": before any, and after all were taken away; 0 and 2 are taken. */
    private static void emptyTape() {
        Lab lab = Lab.with();
        Check.no("tape(1)", lab.computer.tape(1));
        Check.yes("tape(0)", lab.computer.tape(0));
        Check.yes("tape(2)", lab.computer.tape(2));
        Check.no("tape(1)", lab.computer.tape(1));
        looks("of an empty tape", lab, 0, 0, 0);
        lab.computer.pulse(4);
        Check.yes("tape(1) with one", lab.computer.tape(1));
        Check.yes("tape(2)", lab.computer.tape(2));
        Check.no("tape(1)", lab.computer.tape(1));
        looks("of a tape that is empty again", lab, 0, 0, 0);
        lab.step();
        looks("later", lab, 0, 0, 0);
    }

    /** "the level (low at first) changes at the end of each pulse, counted from when playing began" */
    private static void theTickOfAnEnd() {
        for (int ticks = 1; ticks <= 12; ticks++) {
            Lab lab = withPulses(ticks, 10000);
            lab.computer.tape(1);
            for (int k = 0; k <= 3; k++) {
                looks("of " + ticks + " after " + 4 * k, lab, ticks <= 4 * k ? 1 : 0, 1, ticks <= 4 * k ? 1 : 0);
                lab.step();
            }
        }
    }

    /** "the level at the tick at which the access begins", "a pulse that ends then being over" */
    private static void thePortAtThatTick() {
        for (int ticks = 1; ticks <= 14; ticks++) {
            Lab lab = withPulses(ticks, 10000);
            lab.put(Lab.HOME, 237, 120).setPair(Lab.B, 254).computer.tape(1);
            lab.step();
            Check.same("port BC, pulse of " + ticks, lab.get(Lab.A), ticks <= 8 ? 255 : 191);
            looks("behind it", lab, ticks <= 12 ? 1 : 0, 1, ticks <= 12 ? 1 : 0);
            lab = withPulses(ticks, 10000);
            lab.put(Lab.HOME, 219, 254).computer.tape(1);
            lab.step();
            Check.same("port n, pulse of " + ticks, lab.get(Lab.A), ticks <= 7 ? 255 : 191);
            lab = withPulses(ticks);
            lab.put(Lab.HOME, 219, 254, 219, 254).computer.tape(1);
            lab.step();
            Check.same("port n, one pulse of " + ticks, lab.get(Lab.A), ticks <= 7 ? 255 : 191);
            lab.step();
            Check.same("the level stays when it has stopped", lab.get(Lab.A), 255);
        }
    }

    /** "(after being slowed)": the access is to begin at tick 0 .. 7 of a line. */
    private static void thePortAfterBeingSlowed() {
        for (int t = 0; t < 8; t++) {
            int begins = 8 + P10StepTest.delay(1024 + t);
            for (int ticks = 7; ticks <= 15; ticks++) {
                Lab lab = withPulses(ticks, 10000);
                lab.put(Lab.HOME, 237, 120).setPair(Lab.B, 254).waitUntil(1024 + t - 8).computer.tape(1);
                Check.same("ticks at " + t, lab.step(), begins + 4);
                Check.same("port at " + t + ", pulse of " + ticks, lab.get(Lab.A), ticks <= begins ? 255 : 191);
            }
        }
    }

    /** "with the last one's end it stops" */
    private static void theLastEnd() {
        for (int ticks = 5; ticks <= 9; ticks++) {
            Lab lab = withPulses(ticks);
            lab.computer.tape(1);
            lab.step();
            looks("of " + ticks + " after 4", lab, 0, 1, 0);
            Check.no("no pulse while it plays", lab.computer.pulse(1));
            lab.step();
            looks("of " + ticks + " after 8", lab, ticks <= 8 ? 1 : 0, ticks <= 8 ? 0 : 1, ticks <= 8 ? 1 : 0);
            Check.same("a pulse after 8", lab.computer.pulse(1) ? 1 : 0, ticks <= 8 ? 1 : 0);
        }
    }

    private static void endsWithinOneInstruction() {
        Lab lab = withPulses(1, 1, 1);
        lab.computer.tape(1);
        lab.step();
        looks("three ends in 4 ticks", lab, 1, 0, 3);
        lab = withPulses(1, 1, 1, 1);
        lab.computer.tape(1);
        lab.step();
        looks("four ends in 4 ticks", lab, 0, 0, 4);
        lab = withPulses(1, 1, 1, 1, 1);
        lab.computer.tape(1);
        lab.step();
        looks("four of five ends in 4 ticks", lab, 0, 1, 4);
        lab.computer.tape(1);
        looks("begun again", lab, 0, 1, 0);
        lab.computer.frame();
        looks("all within a frame", lab, 1, 0, 5);
    }

    /** "(1, also while it plays; the level is low)" */
    private static void beginningWhilePlaying() {
        Lab lab = withPulses(6, 6);
        lab.computer.tape(1);
        lab.step();
        Check.yes("tape(1) in the first pulse", lab.computer.tape(1));
        lab.step();
        looks("4 ticks after that", lab, 0, 1, 0);
        lab.step();
        looks("8 ticks after that", lab, 1, 1, 1);
        Check.yes("tape(1) in the second pulse", lab.computer.tape(1));
        looks("at once", lab, 0, 1, 0);
        lab.computer.step(3);
        looks("at the end", lab, 0, 0, 2);
        lab = withPulses(4);
        lab.computer.tape(1);
        lab.step();
        looks("at the end with a high level", lab, 1, 0, 1);
        Check.yes("tape(1) behind the end", lab.computer.tape(1));
        looks("begun again", lab, 0, 1, 0);
    }

    private static void beginningInTheMiddleOfAFrame() {
        Lab lab = withPulses(100, 100).waitUntil(4000);
        lab.computer.tape(1);
        lab.computer.step(24);
        looks("at the frame's end", lab, 0, 1, 0);
        lab.step();
        looks("behind the frame's end", lab, 1, 1, 1);
        lab.computer.step(25);
        looks("when all are over", lab, 0, 0, 2);
    }

    /** "stops (0, also if it does not play; the level stays)" */
    private static void stoppingAtAnEnd() {
        for (int steps = 0; steps <= 4; steps++) {
            Lab lab = withPulses(4, 4, 4);
            lab.computer.tape(1);
            if (steps > 0) {
                lab.computer.step(steps);
            }
            int over = Math.min(steps, 3);
            Check.yes("tape(0)", lab.computer.tape(0));
            looks("stopped after " + steps, lab, over & 1, 0, over);
            lab.put(3000, 219, 254).set(Lab.PC, 3000).set(Lab.A, 0).step();
            Check.same("the port then", lab.get(Lab.A), 191 + 64 * (over & 1));
            Check.yes("tape(0) again", lab.computer.tape(0));
            looks("stopped again", lab, over & 1, 0, over);
            Check.yes("a pulse then", lab.computer.pulse(4));
            looks("with a pulse more", lab, over & 1, 0, over);
        }
    }

    /** "stops and takes all pulses away (2; the level is low)" */
    private static void takingAwayFromAFullTape() {
        Lab lab = Lab.with();
        for (int k = 0; k < 40; k++) {
            lab.computer.pulse(4);
        }
        lab.computer.tape(1);
        lab.computer.step(3);
        looks("before", lab, 1, 1, 3);
        Check.yes("tape(2)", lab.computer.tape(2));
        looks("behind", lab, 0, 0, 0);
        lab.put(3000, 219, 254).set(Lab.PC, 3000).step();
        Check.same("the port then", lab.get(Lab.A), 191);
        for (int k = 0; k < 40; k++) {
            Check.yes("room for pulse " + k, lab.computer.pulse(8));
        }
        Check.no("no room for another", lab.computer.pulse(8));
        lab.set(Lab.PC, Lab.HOME).computer.tape(1);
        lab.step();
        looks("the new ones are longer", lab, 0, 1, 0);
        lab.step();
        looks("the first of them is over", lab, 1, 1, 1);
    }

    private static void appendingBehindTheEnd() {
        Lab lab = withPulses(4);
        lab.computer.tape(1);
        lab.step();
        Check.yes("a pulse behind the end", lab.computer.pulse(8));
        lab.computer.step(5);
        looks("it does not play by itself", lab, 1, 0, 1);
        lab.computer.tape(1);
        lab.computer.step(2);
        looks("in the appended one", lab, 1, 1, 1);
        lab.step();
        looks("behind the appended one", lab, 0, 0, 2);
    }
}
