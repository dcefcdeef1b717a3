/** A computer and the model beside it: each call is made on both, and the answers have to be the same. */
final class Twin {
    /** The document promises nothing beyond. */
    static final int MOST_CALLS = 512;

    final Model model = new Model();
    private final HomeComputer computer = new HomeComputer();
    private final String name;
    private int calls;

    Twin(String name) {
        this.name = name;
    }

    int callsLeft() {
        return MOST_CALLS - calls;
    }

    private void called() {
        calls++;
        if (calls > MOST_CALLS) {
            throw new IllegalStateException("more than 512 calls: " + name);
        }
    }

    private void same(String call, int got, int want) {
        called();
        if (got != want) {
            Check.same(name + ", call " + calls + ": " + call, got, want);
        } else {
            Check.seen();
        }
    }

    private void same(String call, boolean got, boolean want) {
        same(call, got ? 1 : 0, want ? 1 : 0);
    }

    void poke(int address, int value) {
        called();
        computer.poke(address, value);
        model.poke(address, value);
    }

    void load(int address, int bytes, int n) {
        same("load", computer.load(address, bytes, n), model.load(address, bytes, n));
    }

    /** Puts any number of bytes by as few calls as can be. */
    void code(int address, int... bytes) {
        for (int k = 0; k < bytes.length; k += 4) {
            int four = 0;
            for (int i = k; i < k + 4; i++) {
                four = four << 8 | (i < bytes.length ? bytes[i] & 255 : 0);
            }
            load(address + k, four, Math.min(4, bytes.length - k));
        }
    }

    void peek(int address) {
        same("peek", computer.peek(address), model.peek(address));
    }

    void set(int register, int value) {
        same("set", computer.set(register, value), model.set(register, value));
    }

    void register(int k) {
        same("register", computer.register(k), model.register(k));
    }

    void key(int row, int key, boolean down) {
        same("key", computer.key(row, key, down), model.key(row, key, down));
    }

    void pulse(int ticks) {
        same("pulse", computer.pulse(ticks), model.pulse(ticks));
    }

    void tape(int what) {
        same("tape", computer.tape(what), model.tape(what));
    }

    void step(int n) {
        same("step", computer.step(n), model.step(n));
    }

    void frame() {
        same("frame", computer.frame(), model.frame());
    }

    void look(int what) {
        same("look", computer.look(what), model.look(what));
    }

    void stripe(int line) {
        same("stripe", computer.stripe(line), model.stripe(line));
    }

    /** 33 calls. */
    void registersAndLooks() {
        for (int k = 0; k <= 25; k++) {
            register(k);
        }
        for (int what = 0; what <= 6; what++) {
            look(what);
        }
    }

    /** 64 calls. */
    void stripes() {
        for (int line = 0; line < 64; line++) {
            stripe(line);
        }
    }
}
