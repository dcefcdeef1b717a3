/** A computer on the bench: short ways to prepare one, run it and read it. */
final class Lab {
    static final int A = 0;
    static final int F = 1;
    static final int B = 2;
    static final int C = 3;
    static final int D = 4;
    static final int E = 5;
    static final int H = 6;
    static final int L = 7;
    static final int I = 16;
    static final int R = 17;
    static final int X = 18;
    static final int Y = 19;
    static final int SP = 20;
    static final int PC = 21;
    static final int IFF1 = 22;
    static final int IFF2 = 23;
    static final int MODE = 24;
    static final int HALTED = 25;
    /** A place that is neither slowed nor kept from writing. */
    static final int HOME = 2048;
    /** Some hundred bytes from here on are left 0 by the tests that wait. */
    private static final int WAITING = 3700;

    final HomeComputer computer = new HomeComputer();

    /** A new computer with a program at HOME, PC there and SP at 4000. */
    static Lab with(int... code) {
        Lab lab = new Lab();
        lab.put(HOME, code);
        return lab.set(PC, HOME).set(SP, 4000);
    }

    Lab put(int address, int... bytes) {
        for (int k = 0; k < bytes.length; k++) {
            computer.poke(address + k, bytes[k]);
        }
        return this;
    }

    Lab set(int register, int value) {
        Check.yes("set(" + register + ", " + value + ")", computer.set(register, value));
        return this;
    }

    /** Sets two registers of 8 bits, the first one the high half. */
    Lab setPair(int high, int value) {
        return set(high, value >> 8).set(high + 1, value);
    }

    int get(int register) {
        return computer.register(register);
    }

    int pair(int high) {
        return get(high) << 8 | get(high + 1);
    }

    int step() {
        return computer.step(1);
    }

    int peek(int address) {
        return computer.peek(address);
    }

    /** Runs the computer on until this tick of the frame, by instructions that are not slowed. */
    Lab waitUntil(int tick) {
        int left = tick - computer.look(1);
        int odd = -left & 3;
        if (left < 7 * odd) {
            throw new IllegalArgumentException("too near");
        }
        int pc = get(PC);
        int b = get(B);
        int r = get(R);
        set(PC, WAITING);
        for (int k = 0; k < odd; k++) {
            put(WAITING + 2 * k, 6, 0);
            computer.step(1);
            put(WAITING + 2 * k, 0);
        }
        for (int nothings = (left - 7 * odd) / 4; nothings > 0; nothings -= 100) {
            set(PC, WAITING);
            computer.step(Math.min(100, nothings));
        }
        Check.same("the tick to wait for", computer.look(1), tick);
        return set(PC, pc).set(B, b).set(R, r);
    }

    /** What can be seen of a computer with a call or so for each part of it. */
    String state() {
        StringBuilder text = new StringBuilder();
        for (int k = 0; k <= HALTED; k++) {
            text.append(get(k)).append(' ');
        }
        for (int k = 0; k < 7; k++) {
            text.append(computer.look(k)).append(' ');
        }
        for (int line = 0; line < 64; line += 9) {
            text.append(computer.stripe(line)).append(' ');
        }
        for (int k = 0; k < 64; k++) {
            text.append(peek(k * 65)).append(' ');
        }
        return text.toString();
    }

    /** The flags S, Y, X and Z by a byte, as the document says it. */
    static int by(int v) {
        return (v & 128) + (v & 32) + (v & 8) + (v == 0 ? 64 : 0);
    }

    /** V, if the number of ones is even. */
    static int parity(int v) {
        int ones = 0;
        for (int bit = 1; bit < 256; bit *= 2) {
            ones += (v & bit) != 0 ? 1 : 0;
        }
        return ones % 2 == 0 ? 4 : 0;
    }
}
