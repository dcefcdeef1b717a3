/** Promise 6: register. */
final class P06RegisterTest {
    public static void main(String[] args) {
        HomeComputer x = new HomeComputer();
        for (int k = 0; k <= 24; k++) {
            x.set(k, k % 2 + (k < 22 ? k : 0));
            Check.same("register(" + k + ")", x.register(k), k % 2 + (k < 22 ? k : 0));
        }
        for (int k : new int[] {-1, -2, 26, 27, 256, Integer.MAX_VALUE, Integer.MIN_VALUE}) {
            Check.same("register(" + k + ")", x.register(k), -1);
        }
        secondRegistersBehindTheFirst();
        halt();
        Check.end();
    }

    private static void secondRegistersBehindTheFirst() {
        Lab lab = Lab.with(8, 217);
        for (int k = 0; k < 16; k++) {
            lab.set(k, 100 + k);
        }
        lab.computer.step(2);
        for (int k = 0; k < 16; k++) {
            Check.same("register(" + k + ") exchanged", lab.get(k), 100 + (k ^ 8));
        }
    }

    private static void halt() {
        Lab lab = Lab.with(0, 118, 0);
        lab.step();
        Check.same("register(25) before HALT", lab.get(25), 0);
        lab.step();
        Check.same("register(25) in HALT", lab.get(25), 1);
        lab.computer.step(50);
        lab.set(Lab.PC, 3000);
        Check.same("register(25) still in HALT", lab.get(25), 1);
        lab.set(Lab.IFF1, 1);
        lab.computer.frame();
        Check.same("register(25) at the frame's end", lab.get(25), 1);
        lab.step();
        Check.same("register(25) after the interrupt", lab.get(25), 0);
    }
}
