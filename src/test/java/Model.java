/**
 * The document once more, in another way than the program: time goes on tick by tick, and flags are set one by one.
 * It is slow and holds no limit of its own; tests compare the program's answers with it.
 */
final class Model {
    private static final int S = 128;
    private static final int Z = 64;
    private static final int Y = 32;
    private static final int H = 16;
    private static final int X = 8;
    private static final int V = 4;
    private static final int N = 2;
    private static final int C = 1;
    private static final int[] LATER = {6, 5, 4, 3, 2, 1, 0, 0};
    private static final int[] CONDITION = {Z, C, V, S};

    final int[] bytes = new int[4096];
    final int[] reg = new int[26];
    final int[] stripes = new int[64];
    final boolean[][] keys = new boolean[8][5];
    int ticks;
    int border;
    int edges;
    boolean speaker;
    /** The pulses of the tape, and how far it has played. */
    final int[] pulses = new int[40];
    int pulseCount;
    int over;
    int intoPulse;
    boolean high;
    boolean plays;
    private boolean justAllowed;
    /** 0, 221 or 253. */
    private int prefix;
    private int place;

    void poke(int address, int value) {
        bytes[address & 4095] = value & 255;
    }

    boolean load(int address, int four, int n) {
        if (n < 1 || n > 4) {
            return false;
        }
        int[] parts = {four >> 24, four >> 16, four >> 8, four};
        for (int k = 0; k < n; k++) {
            poke(address + k, parts[k]);
        }
        return true;
    }

    int peek(int address) {
        return bytes[address & 4095];
    }

    boolean set(int k, int value) {
        if (k < 0 || k > 24 || k == 24 && value != 0 && value != 1 && value != 2) {
            return false;
        }
        int modulus = k <= 17 ? 256 : k <= 21 ? 65536 : k <= 23 ? 2 : 3;
        reg[k] = Math.floorMod(value, modulus);
        return true;
    }

    int register(int k) {
        return k >= 0 && k <= 25 ? reg[k] : -1;
    }

    boolean key(int row, int key, boolean down) {
        if (row < 0 || row > 7 || key < 0 || key > 4) {
            return false;
        }
        keys[row][key] = down;
        return true;
    }

    boolean pulse(int length) {
        if (length < 1 || length > 10000 || pulseCount == 40 || plays) {
            return false;
        }
        pulses[pulseCount++] = length;
        return true;
    }

    boolean tape(int what) {
        if (what == 0) {
            plays = false;
            return true;
        }
        if (what == 1 && pulseCount > 0 || what == 2) {
            plays = what == 1;
            pulseCount = what == 1 ? pulseCount : 0;
            over = 0;
            intoPulse = 0;
            high = false;
            return true;
        }
        return false;
    }

    int step(int n) {
        if (n < 1 || n > 100) {
            return -1;
        }
        int before = ticks;
        for (int k = 0; k < n; k++) {
            instruction();
        }
        return ticks - before;
    }

    int frame() {
        int before = ticks / 4096;
        int done = 0;
        do {
            instruction();
            done++;
        } while (ticks / 4096 == before && done < 1100);
        return done;
    }

    int look(int what) {
        int[] answers = {ticks / 4096, ticks % 4096, border, edges, high ? 1 : 0, plays ? 1 : 0, over};
        return what >= 0 && what < answers.length ? answers[what] : -1;
    }

    int stripe(int line) {
        return line >= 0 && line < 64 ? stripes[line] : -1;
    }

    private void pass(int n) {
        for (int k = 0; k < n; k++) {
            ticks++;
            if (ticks % 64 == 0) {
                stripes[ticks / 64 % 64] = border;
            }
            if (plays) {
                playOneTick();
            }
        }
    }

    private void playOneTick() {
        intoPulse++;
        if (intoPulse == pulses[over]) {
            intoPulse = 0;
            over++;
            high = !high;
            plays = over < pulseCount;
        }
    }

    private void slow(boolean shared) {
        int line = ticks / 64 % 64;
        if (shared && line >= 16 && line <= 47 && ticks % 64 < 32) {
            pass(LATER[ticks % 8]);
        }
    }

    private int access(int address, int length) {
        int at = address & 4095;
        slow(at >= 1024 && at <= 2047);
        pass(length);
        return bytes[at];
    }

    private void write(int address, int value) {
        access(address, 3);
        if ((address & 4095) > 1023) {
            poke(address, value);
        }
    }

    private int readTwo(int address) {
        int low = access(address, 3);
        return access(address + 1, 3) * 256 + low;
    }

    private void writeTwo(int address, int value) {
        write(address, value % 256);
        write(address + 1, value / 256);
    }

    private int in(int port) {
        slow(port % 2 == 0);
        int answer = 160 + (high ? 64 : 0);
        for (int k = 0; k < 5; k++) {
            boolean down = false;
            for (int row = 0; row < 8; row++) {
                down |= keys[row][k] && port / (256 << row) % 2 == 0;
            }
            answer += down ? 0 : 1 << k;
        }
        pass(4);
        return port % 2 == 0 ? answer : 255;
    }

    private void out(int port, int value) {
        slow(port % 2 == 0);
        pass(4);
        if (port % 2 == 1) {
            return;
        }
        border = value % 8;
        if (ticks % 64 == 0) {
            stripes[ticks / 64 % 64] = border;
        }
        if (speaker != (value / 16 % 2 == 1)) {
            speaker = !speaker;
            edges++;
        }
    }

    private void flag(int bit, boolean on) {
        reg[1] = on ? reg[1] | bit : reg[1] & 255 - bit;
    }

    private boolean has(int bit) {
        return reg[1] / bit % 2 == 1;
    }

    private void by(int v) {
        flag(S, v / 128 == 1);
        flag(Z, v == 0);
        yx(v);
    }

    private void yx(int v) {
        flag(Y, v / 32 % 2 == 1);
        flag(X, v / 8 % 2 == 1);
    }

    private void parity(int v) {
        boolean even = true;
        for (int rest = v; rest > 0; rest /= 2) {
            even ^= rest % 2 == 1;
        }
        flag(V, even);
    }

    private void neitherHNorN() {
        flag(H, false);
        flag(N, false);
    }

    private static int signed(int v, int modulus) {
        return v >= modulus / 2 ? v - modulus : v;
    }

    /** a + v + c or a - v - c of bytes or of pairs, with H, V, N and C. */
    private int sum(int a, int v, int c, boolean minus, int modulus) {
        int sign = minus ? -1 : 1;
        int low = a % (modulus / 16) + sign * (v % (modulus / 16) + c);
        int all = a + sign * (v + c);
        int whole = signed(a, modulus) + sign * (signed(v, modulus) + c);
        flag(H, low < 0 || low >= modulus / 16);
        flag(C, all < 0 || all >= modulus);
        flag(V, whole < -modulus / 2 || whole >= modulus / 2);
        flag(N, minus);
        return Math.floorMod(all, modulus);
    }

    private int fetch() {
        int b = access(reg[21], 4);
        reg[21] = (reg[21] + 1) % 65536;
        growR();
        return b;
    }

    private void growR() {
        reg[17] = reg[17] % 128 == 127 ? reg[17] - 127 : reg[17] + 1;
    }

    private int n() {
        int b = access(reg[21], 3);
        reg[21] = (reg[21] + 1) % 65536;
        return b;
    }

    private int nn() {
        int low = n();
        return n() * 256 + low;
    }

    private void pcBy(int e) {
        reg[21] = Math.floorMod(reg[21] + e, 65536);
    }

    private int pairAt(int high) {
        return reg[high] * 256 + reg[high + 1];
    }

    private void setPairAt(int high, int v) {
        reg[high] = v / 256 % 256;
        reg[high + 1] = v % 256;
    }

    private int hl() {
        return prefix == 0 ? pairAt(6) : reg[prefix == 221 ? 18 : 19];
    }

    private void setHl(int v) {
        if (prefix == 0) {
            setPairAt(6, v);
        } else {
            reg[prefix == 221 ? 18 : 19] = v;
        }
    }

    private int w(int p) {
        return p == 3 ? reg[20] : p == 2 ? hl() : pairAt(2 + 2 * p);
    }

    private void setW(int p, int v) {
        if (p == 3) {
            reg[20] = v;
        } else if (p == 2) {
            setHl(v);
        } else {
            setPairAt(2 + 2 * p, v);
        }
    }

    private int r(int k) {
        switch (k) {
            case 4:
                return hl() / 256;
            case 5:
                return hl() % 256;
            case 6:
                return access(place, 3);
            case 7:
                return reg[0];
            default:
                return reg[2 + k];
        }
    }

    private void setR(int k, int v) {
        switch (k) {
            case 4:
                setHl(v * 256 + hl() % 256);
                break;
            case 5:
                setHl(hl() / 256 * 256 + v);
                break;
            case 6:
                write(place, v);
                break;
            case 7:
                reg[0] = v;
                break;
            default:
                reg[2 + k] = v;
                break;
        }
    }

    /** Where M is; from here on H and L are themselves. */
    private void findM() {
        place = hl();
        if (prefix != 0) {
            place = Math.floorMod(place + signed(n(), 256), 65536);
            prefix = 0;
        }
    }

    private boolean cond(int k) {
        return has(CONDITION[k / 2]) == (k % 2 == 1);
    }

    private void push(int v) {
        reg[20] = (reg[20] + 65535) % 65536;
        write(reg[20], v / 256);
        reg[20] = (reg[20] + 65535) % 65536;
        write(reg[20], v % 256);
    }

    private int pop() {
        int low = access(reg[20], 3);
        reg[20] = (reg[20] + 1) % 65536;
        int v = access(reg[20], 3) * 256 + low;
        reg[20] = (reg[20] + 1) % 65536;
        return v;
    }

    private void call(int v) {
        push(reg[21]);
        reg[21] = v;
    }

    private void exchange(int from, int to, int distance) {
        for (int k = from; k <= to; k++) {
            int kept = reg[k];
            reg[k] = reg[k + distance];
            reg[k + distance] = kept;
        }
    }

    private void instruction() {
        boolean wanted = ticks % 4096 < 32 && reg[22] == 1 && !justAllowed;
        justAllowed = false;
        prefix = 0;
        if (wanted) {
            interrupt();
        } else if (reg[25] == 1) {
            access(reg[21], 4);
            growR();
        } else {
            int b = fetch();
            int prefixes = 0;
            while (b == 221 || b == 253) {
                prefixes++;
                if (prefixes == 4) {
                    return;
                }
                prefix = b;
                b = fetch();
            }
            opcode(b);
        }
    }

    private void interrupt() {
        reg[25] = 0;
        reg[22] = 0;
        reg[23] = 0;
        growR();
        pass(4);
        push(reg[21]);
        reg[21] = reg[24] == 2 ? readTwo(reg[16] * 256 + 255) : 56;
    }

    private void opcode(int b) {
        int y = b / 8 % 8;
        int z = b % 8;
        switch (b / 64) {
            case 0:
                x0(y, z);
                break;
            case 1:
                if (b == 118) {
                    reg[25] = 1;
                    break;
                }
                if (y == 6 || z == 6) {
                    findM();
                }
                setR(y, r(z));
                break;
            case 2:
                if (z == 6) {
                    findM();
                }
                op(y, r(z));
                break;
            default:
                x3(y, z);
                break;
        }
    }

    private void x0(int y, int z) {
        int p = y / 2;
        boolean q = y % 2 == 1;
        switch (z) {
            case 0:
                near(y);
                break;
            case 1:
                if (q) {
                    boolean v = has(V);
                    setHl(sum(hl(), w(p), 0, false, 65536));
                    flag(V, v);
                    yx(hl() / 256);
                } else {
                    setW(p, nn());
                }
                break;
            case 2:
                indirect(p, q);
                break;
            case 3:
                setW(p, Math.floorMod(w(p) + (q ? -1 : 1), 65536));
                break;
            case 4:
            case 5:
                if (y == 6) {
                    findM();
                }
                boolean c = has(C);
                int v = sum(r(y), 1, 0, z == 5, 256);
                by(v);
                flag(C, c);
                setR(y, v);
                break;
            case 6:
                if (y == 6) {
                    findM();
                }
                setR(y, n());
                break;
            default:
                accumulator(y);
                break;
        }
    }

    private void near(int y) {
        if (y == 1) {
            exchange(0, 1, 8);
        }
        if (y < 2) {
            return;
        }
        int e = signed(n(), 256);
        boolean goes = true;
        if (y == 2) {
            reg[2] = (reg[2] + 255) % 256;
            goes = reg[2] != 0;
        } else if (y >= 4) {
            goes = cond(y - 4);
        }
        if (goes) {
            pcBy(e);
        }
    }

    private void indirect(int p, boolean q) {
        int address = p == 0 ? pairAt(2) : p == 1 ? pairAt(4) : nn();
        if (p == 2 && q) {
            setHl(readTwo(address));
        } else if (p == 2) {
            writeTwo(address, hl());
        } else if (q) {
            reg[0] = access(address, 3);
        } else {
            write(address, reg[0]);
        }
    }

    private void accumulator(int y) {
        int a = reg[0];
        switch (y) {
            case 4:
                adjust();
                return;
            case 5:
                reg[0] = 255 - a;
                flag(H, true);
                flag(N, true);
                break;
            case 6:
                neitherHNorN();
                flag(C, true);
                break;
            case 7:
                flag(H, has(C));
                flag(C, !has(C));
                flag(N, false);
                break;
            default:
                int before = reg[1];
                reg[0] = turn(y, a);
                for (int bit : new int[] {S, Z, V}) {
                    flag(bit, before / bit % 2 == 1);
                }
                break;
        }
        yx(reg[0]);
    }

    private void adjust() {
        int a = reg[0];
        int d = has(H) || a % 16 > 9 ? 6 : 0;
        if (has(C) || a > 153) {
            d += 96;
            flag(C, true);
        }
        reg[0] = Math.floorMod(has(N) ? a - d : a + d, 256);
        by(reg[0]);
        parity(reg[0]);
        flag(H, a / 16 % 2 != reg[0] / 16 % 2);
    }

    private void op(int y, int v) {
        int a = reg[0];
        if (y >= 4 && y <= 6) {
            reg[0] = y == 4 ? a & v : y == 5 ? a ^ v : a | v;
            by(reg[0]);
            parity(reg[0]);
            flag(N, false);
            flag(C, false);
            flag(H, y == 4);
            return;
        }
        int c = (y == 1 || y == 3) && has(C) ? 1 : 0;
        int result = sum(a, v, c, y >= 2, 256);
        by(result);
        if (y == 7) {
            yx(v);
        } else {
            reg[0] = result;
        }
    }

    private int turn(int y, int v) {
        boolean right = y % 2 == 1;
        int out = right ? v % 2 : v / 128;
        int[] in = {out, out, has(C) ? 1 : 0, has(C) ? 1 : 0, 0, v / 128, 1, 0};
        int result = right ? v / 2 + in[y] * 128 : v % 128 * 2 + in[y];
        by(result);
        parity(result);
        neitherHNorN();
        flag(C, out == 1);
        return result;
    }

    private void x3(int y, int z) {
        switch (z) {
            case 0:
                if (cond(y)) {
                    reg[21] = pop();
                }
                break;
            case 1:
                x3z1(y);
                break;
            case 2:
                int target = nn();
                if (cond(y)) {
                    reg[21] = target;
                }
                break;
            case 3:
                x3z3(y);
                break;
            case 4:
                int place = nn();
                if (cond(y)) {
                    call(place);
                }
                break;
            case 5:
                if (y == 1) {
                    call(nn());
                } else if (y == 5) {
                    prefix = 0;
                    more(fetch());
                } else {
                    push(y == 6 ? pairAt(0) : w(y / 2));
                }
                break;
            case 6:
                op(y, n());
                break;
            default:
                call(8 * y);
                break;
        }
    }

    private void x3z1(int y) {
        switch (y) {
            case 1:
                reg[21] = pop();
                break;
            case 3:
                exchange(2, 7, 8);
                break;
            case 5:
                reg[21] = hl();
                break;
            case 6:
                setPairAt(0, pop());
                break;
            case 7:
                reg[20] = hl();
                break;
            default:
                setW(y / 2, pop());
                break;
        }
    }

    private void x3z3(int y) {
        switch (y) {
            case 0:
                reg[21] = nn();
                break;
            case 1:
                rotations();
                break;
            case 2:
                out(reg[0] * 256 + n(), reg[0]);
                break;
            case 3:
                reg[0] = in(reg[0] * 256 + n());
                break;
            case 4:
                int top = readTwo(reg[20]);
                writeTwo(reg[20], hl());
                setHl(top);
                break;
            case 5:
                exchange(4, 5, 2);
                break;
            default:
                reg[22] = y - 6;
                reg[23] = y - 6;
                justAllowed = y == 7;
                break;
        }
    }

    private void rotations() {
        boolean behindPrefix = prefix != 0;
        findM();
        int b = behindPrefix ? n() : fetch();
        int y = b / 8 % 8;
        int z = b % 8;
        int v = behindPrefix ? access(place, 3) : r(z);
        boolean isSet = (v >> y) % 2 == 1;
        int result;
        switch (b / 64) {
            case 0:
                result = turn(y, v);
                break;
            case 1:
                flag(Z, !isSet);
                flag(V, !isSet);
                flag(S, isSet && y == 7);
                yx(v);
                flag(H, true);
                flag(N, false);
                return;
            case 2:
                result = isSet ? v - (1 << y) : v;
                break;
            default:
                result = isSet ? v : v + (1 << y);
                break;
        }
        if (behindPrefix) {
            write(place, result);
        }
        if (!behindPrefix || z != 6) {
            setR(z, result);
        }
    }

    private void more(int b) {
        int y = b / 8 % 8;
        int z = b % 8;
        if (b / 64 == 2 && y >= 4 && z == 0) {
            move(y);
        } else if (b / 64 == 2 && y >= 4 && z == 1) {
            lookAt(y);
        } else if (b / 64 == 1) {
            more1(y, z);
        }
    }

    private void more1(int y, int z) {
        switch (z) {
            case 0:
                int v = in(pairAt(2));
                by(v);
                parity(v);
                neitherHNorN();
                if (y != 6) {
                    setR(y, v);
                }
                break;
            case 1:
                out(pairAt(2), y == 6 ? 0 : r(y));
                break;
            case 2:
                int sum = sum(hl(), w(y / 2), has(C) ? 1 : 0, y % 2 == 0, 65536);
                setHl(sum);
                by(sum / 256);
                flag(Z, sum == 0);
                break;
            case 3:
                int nn = nn();
                if (y % 2 == 1) {
                    setW(y / 2, readTwo(nn));
                } else {
                    writeTwo(nn, w(y / 2));
                }
                break;
            case 4:
                int a = reg[0];
                reg[0] = 0;
                op(2, a);
                break;
            case 5:
                reg[21] = pop();
                reg[22] = reg[23];
                break;
            case 6:
                reg[24] = new int[] {0, 0, 1, 2}[y % 4];
                break;
            default:
                more1z7(y);
                break;
        }
    }

    private void more1z7(int y) {
        switch (y) {
            case 0:
                reg[16] = reg[0];
                break;
            case 1:
                reg[17] = reg[0];
                break;
            case 2:
            case 3:
                reg[0] = reg[14 + y];
                by(reg[0]);
                flag(V, reg[23] == 1);
                neitherHNorN();
                break;
            case 4:
            case 5:
                int m = access(hl(), 3);
                int twelve = y == 4 ? m % 16 * 256 + reg[0] % 16 * 16 + m / 16 : m * 16 + reg[0] % 16;
                write(hl(), twelve % 256);
                reg[0] = reg[0] / 16 * 16 + twelve / 256;
                by(reg[0]);
                parity(reg[0]);
                neitherHNorN();
                break;
            default:
                break;
        }
    }

    private void changeBlock(int y, boolean alsoDe) {
        int by = y % 2 == 0 ? 1 : 65535;
        setPairAt(6, (pairAt(6) + by) % 65536);
        if (alsoDe) {
            setPairAt(4, (pairAt(4) + by) % 65536);
        }
        setPairAt(2, (pairAt(2) + 65535) % 65536);
        flag(V, pairAt(2) != 0);
    }

    private void move(int y) {
        int v = access(pairAt(6), 3);
        write(pairAt(4), v);
        changeBlock(y, true);
        neitherHNorN();
        int t = reg[0] + v;
        flag(Y, t / 2 % 2 == 1);
        flag(X, t / 8 % 2 == 1);
        if (y >= 6 && has(V)) {
            pcBy(-2);
        }
    }

    private void lookAt(int y) {
        int v = access(pairAt(6), 3);
        boolean c = has(C);
        int t = sum(reg[0], v, 0, true, 256);
        flag(C, c);
        flag(S, t >= 128);
        flag(Z, t == 0);
        changeBlock(y, false);
        int less = t + 256 - (has(H) ? 1 : 0);
        flag(Y, less / 2 % 2 == 1);
        flag(X, less / 8 % 2 == 1);
        if (y >= 6 && has(V) && t != 0) {
            pcBy(-2);
        }
    }
}
