/** Promise 1: a new object. */
final class P01NewObjectTest {
    public static void main(String[] args) {
        HomeComputer x = new HomeComputer();
        for (int k = 0; k <= 25; k++) {
            Check.same("register(" + k + ")", x.register(k), 0);
        }
        for (int k = 0; k <= 6; k++) {
            Check.same("look(" + k + ")", x.look(k), 0);
        }
        for (int line = 0; line < 64; line++) {
            Check.same("stripe(" + line + ")", x.stripe(line), 0);
        }
        for (int block = 0; block < 16; block++) {
            HomeComputer fresh = new HomeComputer();
            for (int k = 0; k < 256; k++) {
                Check.same("peek", fresh.peek(block * 256 + k), 0);
            }
        }
        Check.no("the tape has no pulse to play", x.tape(1));
        noKeyIsDown();
        objectsShareNothing();
        Check.end();
    }

    private static void noKeyIsDown() {
        Lab lab = Lab.with(219, 254);
        lab.step();
        Check.same("the port that looks at all rows", lab.get(Lab.A), 191);
    }

    private static void objectsShareNothing() {
        Lab busy = Lab.with(62, 23, 211, 254, 118);
        busy.computer.key(0, 0, true);
        busy.computer.pulse(5);
        busy.computer.tape(1);
        busy.computer.step(100);
        busy.computer.frame();
        String fresh = new Lab().state();
        Check.same("a second new object", new Lab().state(), fresh);
        Check.yes("the first one is another by now", !busy.state().equals(fresh));
    }
}
