/** The edges of load, set, register and look: the last number that is taken and the first that is not. */
final class EdgeRegisterTest {
    private static final int[] FAR = {Integer.MIN_VALUE, Integer.MIN_VALUE + 1, -65536, -256, -2, -1};
    private static final int[] BEYOND = {1, 2, 230, 65510, Integer.MAX_VALUE - 25};

    public static void main(String[] args) {
        registersThatAreSet();
        widths();
        theOthersStay();
        iffs();
        registersThatAreTold();
        whatIsLookedAt();
        loadsLengths();
        loadsBytes();
        Check.end();
    }

    /** "0 .. 7 ..., 24 MODE (0 .. 2): true; false (refused) if there is no such one (25 is only told)" */
    private static void registersThatAreSet() {
        for (int k = 0; k <= 24; k++) {
            Check.yes("set(" + k + ", 1)", new HomeComputer().set(k, 1));
        }
        for (int k : FAR) {
            Check.no("set(" + k + ", 1)", new HomeComputer().set(k, 1));
        }
        Check.no("set(25, 0)", new HomeComputer().set(25, 0));
        Check.no("set(25, 1)", new HomeComputer().set(25, 1));
        for (int k : BEYOND) {
            Check.no("set(" + (25 + k) + ", 1)", new HomeComputer().set(25 + k, 1));
        }
    }

    /** "(its lowest bits)": the highest value that fits, the next one, and what is below 0. */
    private static void widths() {
        for (int k = 0; k <= 23; k++) {
            int most = k <= 17 ? 255 : k <= 21 ? 65535 : 1;
            int[][] cases = {{0, 0}, {1, 1}, {most - 1, most - 1}, {most, most}, {most + 1, 0}, {most + 2, 1},
                {-1, most}, {-2, most - 1}, {-most, 1}, {-most - 1, 0}, {Integer.MAX_VALUE, most},
                {Integer.MIN_VALUE, 0}, {Integer.MIN_VALUE + 1, 1}};
            for (int[] one : cases) {
                HomeComputer x = new HomeComputer();
                x.set(k, 1);
                Check.yes("set(" + k + ", " + one[0] + ")", x.set(k, one[0]));
                Check.same("register(" + k + ") by " + one[0], x.register(k), one[1]);
            }
        }
        for (int mode = 0; mode <= 2; mode++) {
            HomeComputer x = new HomeComputer();
            Check.yes("set(24, " + mode + ")", x.set(24, mode));
            Check.same("register(24)", x.register(24), mode);
        }
        for (int mode : new int[] {3, 4, 5, 255, 256, 257, 65536, -1, -2, Integer.MAX_VALUE, Integer.MIN_VALUE}) {
            HomeComputer x = new HomeComputer();
            x.set(24, 1);
            Check.no("set(24, " + mode + ")", x.set(24, mode));
            Check.same("register(24)", x.register(24), 1);
        }
    }

    private static void theOthersStay() {
        for (int k = 0; k <= 24; k++) {
            HomeComputer x = new HomeComputer();
            x.set(k, k == 24 ? 2 : -1);
            for (int other = 0; other <= 25; other++) {
                if (other != k) {
                    Check.same("register(" + other + ") by set(" + k + ")", x.register(other), 0);
                }
            }
        }
    }

    /** "(set if the lowest bit is)" */
    private static void iffs() {
        for (int k = 22; k <= 23; k++) {
            int[][] cases = {{0, 0}, {1, 1}, {2, 0}, {3, 1}, {254, 0}, {255, 1}, {256, 0}, {-1, 1}, {-2, 0}};
            for (int[] one : cases) {
                for (int before = 0; before < 2; before++) {
                    HomeComputer x = new HomeComputer();
                    x.set(k, before);
                    Check.yes("set(" + k + ", " + one[0] + ")", x.set(k, one[0]));
                    Check.same("register(" + k + ")", x.register(k), one[1]);
                    Check.same("register(" + (45 - k) + ")", x.register(45 - k), 0);
                }
            }
        }
    }

    /** "A register; -1 if there is none. 25: 1 while HALT lasts, else 0." */
    private static void registersThatAreTold() {
        Lab lab = Lab.with(118);
        Check.same("register(25)", lab.get(25), 0);
        lab.step();
        Check.same("register(25) in HALT", lab.get(25), 1);
        for (int k = 0; k <= 25; k++) {
            Check.yes("register(" + k + ") is there", lab.get(k) >= 0);
        }
        for (int k : FAR) {
            Check.same("register(" + k + ")", lab.get(k), -1);
        }
        for (int k : BEYOND) {
            Check.same("register(" + (25 + k) + ")", lab.get(25 + k), -1);
        }
    }

    /** "-1 for another what" */
    private static void whatIsLookedAt() {
        Lab lab = Lab.with(211, 254, 118).set(Lab.A, 21);
        lab.computer.pulse(5);
        lab.computer.pulse(10000);
        lab.computer.tape(1);
        lab.computer.frame();
        int[] due = {1, lab.computer.look(1), 5, 1, 1, 1, 1};
        Check.yes("the tick is behind the frame's first ones", due[1] >= 0 && due[1] < 4);
        for (int what = 0; what <= 6; what++) {
            Check.same("look(" + what + ")", lab.computer.look(what), due[what]);
        }
        for (int what : FAR) {
            Check.same("look(" + what + ")", lab.computer.look(what), -1);
        }
        for (int what : BEYOND) {
            Check.same("look(" + (6 + what) + ")", lab.computer.look(6 + what), -1);
        }
    }

    /** "False (refused) if n is not 1 .. 4." */
    private static void loadsLengths() {
        for (int n = -3; n <= 8; n++) {
            Lab lab = Lab.with();
            boolean due = n >= 1 && n <= 4;
            Check.same("load of " + n, lab.computer.load(100, 0x91A2B3C4, n) ? 1 : 0, due ? 1 : 0);
            int[] bytes = {0x91, 0xA2, 0xB3, 0xC4};
            for (int k = -10; k <= 10; k++) {
                Check.same("byte " + k + " of " + n, lab.peek(100 + k), due && k >= 0 && k < n ? bytes[k] : 0);
            }
        }
        for (int n : new int[] {Integer.MIN_VALUE, Integer.MAX_VALUE, 256 + 1, 65536 + 4, -4}) {
            Lab lab = Lab.with();
            Check.no("load of " + n, lab.computer.load(0, -1, n));
            Check.same("the first byte", lab.peek(0), 0);
            Check.same("the last byte", lab.peek(4095), 0);
        }
    }

    /** "the highest one of bytes first", over the end of memory and over the end of addresses. */
    private static void loadsBytes() {
        int[][] cases = {{0x00000000, 0, 0, 0, 0}, {0xFFFFFFFF, 255, 255, 255, 255}, {0x80000001, 128, 0, 0, 1},
            {0x7FFFFFFF, 127, 255, 255, 255}, {0x01020304, 1, 2, 3, 4}, {0xFEDCBA98, 0xFE, 0xDC, 0xBA, 0x98}};
        for (int[] one : cases) {
            for (int address : new int[] {0, 1021, 1023, 4092, 4093, 4094, 4095, 65533, 65535, Integer.MAX_VALUE, -1,
                Integer.MIN_VALUE}) {
                for (int n = 1; n <= 4; n++) {
                    Lab lab = Lab.with();
                    for (int k = 0; k < 4; k++) {
                        lab.put(address + k, 0x55);
                    }
                    Check.yes("load", lab.computer.load(address, one[0], n));
                    for (int k = 0; k < 4; k++) {
                        Check.same("byte " + k + " of " + n + " at " + address, lab.peek(address + k & 4095),
                                k < n ? one[1 + k] : 0x55);
                    }
                }
            }
        }
    }
}
