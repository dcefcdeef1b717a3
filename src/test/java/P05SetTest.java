/** Promise 5: set. */
final class P05SetTest {
    private static final int[] VALUES = {0, 1, 2, 3, 127, 128, 255, 256, 0x1234, 65535, 65536, 0x12345678, -1, -2,
        Integer.MAX_VALUE, Integer.MIN_VALUE};

    public static void main(String[] args) {
        for (int k = 0; k <= 23; k++) {
            HomeComputer x = new HomeComputer();
            for (int value : VALUES) {
                Check.yes("set(" + k + ", " + value + ")", x.set(k, value));
                Check.same("register(" + k + ") after " + value, x.register(k), Math.floorMod(value, range(k)));
            }
        }
        eachRegisterIsItsOwn();
        modes();
        for (int k : new int[] {25, 26, 100, -1, -2, Integer.MAX_VALUE, Integer.MIN_VALUE}) {
            Lab lab = Lab.with(0);
            String before = lab.state();
            Check.no("set(" + k + ", 1)", lab.computer.set(k, 1));
            Check.same("state after set(" + k + ", 1)", lab.state(), before);
        }
        Check.end();
    }

    private static int range(int k) {
        return k < 18 ? 256 : k < 22 ? 65536 : 2;
    }

    private static void eachRegisterIsItsOwn() {
        HomeComputer x = new HomeComputer();
        for (int k = 0; k <= 21; k++) {
            x.set(k, 50 + k);
        }
        x.set(22, 1);
        x.set(24, 2);
        for (int k = 0; k <= 21; k++) {
            Check.same("register(" + k + ")", x.register(k), 50 + k);
        }
        Check.same("register(22)", x.register(22), 1);
        Check.same("register(23)", x.register(23), 0);
        Check.same("register(24)", x.register(24), 2);
        Check.same("register(25)", x.register(25), 0);
    }

    private static void modes() {
        HomeComputer x = new HomeComputer();
        for (int mode : new int[] {2, 0, 1}) {
            Check.yes("set(24, " + mode + ")", x.set(24, mode));
            Check.same("the mode", x.register(24), mode);
        }
        for (int mode : new int[] {3, 4, 256, 65536, -1, Integer.MAX_VALUE, Integer.MIN_VALUE}) {
            Check.no("set(24, " + mode + ")", x.set(24, mode));
            Check.same("the mode after a refusal", x.register(24), 1);
        }
    }
}
