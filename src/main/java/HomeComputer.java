/** A small home computer: a processor on a board with a video unit, a keyboard, a speaker and a tape. */
public final class HomeComputer {
    private static final int MOST_STEPS = 100;
    private static final int MOST_IN_FRAME = 1100;

    private final Board board;
    private final Processor processor;

    public HomeComputer() {
        board = new Board();
        processor = new Processor(board);
    }

    public void poke(int address, int value) {
        board.place(address, value);
    }

    public boolean load(int address, int bytes, int n) {
        if (n < 1 || n > 4) {
            return false;
        }
        for (int i = 0; i < n; i++) {
            board.place(address + i, bytes >>> (24 - 8 * i));
        }
        return true;
    }

    public int peek(int address) {
        return board.byteAt(address);
    }

    public boolean set(int register, int value) {
        return processor.registers.change(register, value);
    }

    public int register(int k) {
        return processor.registers.tell(k);
    }

    public boolean key(int row, int key, boolean down) {
        return board.keyboard.move(row, key, down);
    }

    public boolean pulse(int ticks) {
        board.recorder.follow(board.now);
        return board.recorder.append(ticks);
    }

    public boolean tape(int what) {
        board.recorder.follow(board.now);
        return board.recorder.command(what, board.now);
    }

    public int step(int n) {
        if (n < 1 || n > MOST_STEPS) {
            return -1;
        }
        int before = board.now;
        for (int i = 0; i < n; i++) {
            processor.next();
        }
        return board.now - before;
    }

    public int frame() {
        int before = board.frames();
        int done = 0;
        while (done < MOST_IN_FRAME && board.frames() == before) {
            processor.next();
            done++;
        }
        return done;
    }

    public int look(int what) {
        board.recorder.follow(board.now);
        switch (what) {
            case 0:
                return board.frames();
            case 1:
                return board.tickOfFrame();
            case 2:
                return board.border;
            case 3:
                return board.edges;
            case 4:
                return board.recorder.level();
            case 5:
                return board.recorder.plays ? 1 : 0;
            case 6:
                return board.recorder.over;
            default:
                return -1;
        }
    }

    public int stripe(int line) {
        if (line < 0 || line >= Board.LINES) {
            return -1;
        }
        return board.stripes[line];
    }

    /** Pulses, of which those that are over are counted only when somebody asks. */
    private static final class Recorder {
        private static final int MOST_PULSES = 40;
        private static final int LONGEST = 10000;

        /** Ends of the pulses, in ticks from when playing began. */
        private final int[] ends = new int[MOST_PULSES];
        private int count;
        private int began;
        private int over;
        private boolean plays;

        boolean append(int ticks) {
            if (ticks < 1 || ticks > LONGEST || count >= MOST_PULSES || plays) {
                return false;
            }
            ends[count] = ticks + (count == 0 ? 0 : ends[count - 1]);
            count++;
            return true;
        }

        boolean command(int what, int now) {
            if (what < 0 || what > 2 || what == 1 && count == 0) {
                return false;
            }
            plays = what == 1;
            if (what != 0) {
                over = 0;
                began = now;
            }
            if (what == 2) {
                count = 0;
            }
            return true;
        }

        void follow(int now) {
            if (!plays) {
                return;
            }
            while (over < count && ends[over] <= now - began) {
                over++;
            }
            plays = over < count;
        }

        /** The level is low at first and changes with each pulse's end, so the pulses tell it. */
        int level() {
            return over & 1;
        }
    }

    /** Eight half-rows of five keys. */
    private static final class Keyboard {
        private static final int ROWS = 8;
        private static final int KEYS = 5;
        private static final int ALL_KEYS = 31;

        private final int[] down = new int[ROWS];

        boolean move(int row, int key, boolean goesDown) {
            if (row < 0 || row >= ROWS || key < 0 || key >= KEYS) {
                return false;
            }
            int bit = 1 << key;
            down[row] = goesDown ? down[row] | bit : down[row] & ~bit;
            return true;
        }

        /** A one for each key that is down in none of the rows that the port's number picks by a zero. */
        int upIn(int port) {
            int pressed = 0;
            for (int row = 0; row < ROWS; row++) {
                if ((port & 256 << row) == 0) {
                    pressed |= down[row];
                }
            }
            return ALL_KEYS & ~pressed;
        }
    }

    /** What the processor reaches by an access: memory and ports, and the time that accesses take. */
    private static final class Board {
        static final int LINES = 64;
        static final int FETCH_TICKS = 4;
        private static final int MEMORY = 4096;
        private static final int FIRST_WRITABLE = 1024;
        private static final int BYTE_TICKS = 3;
        private static final int PORT_TICKS = 4;

        private final int[] memory = new int[MEMORY];
        private final int[] stripes = new int[LINES];
        private final Keyboard keyboard = new Keyboard();
        private final Recorder recorder = new Recorder();
        private int now;
        private int border;
        private int speaker;
        private int edges;

        int byteAt(int address) {
            return memory[address & MEMORY - 1];
        }

        void place(int address, int value) {
            memory[address & MEMORY - 1] = value & 255;
        }

        int frames() {
            return now >> 12;
        }

        int tickOfFrame() {
            return now & 4095;
        }

        /** No access is as long as a line, so at most one line begins here. */
        void pass(int ticks) {
            int line = now >> 6;
            now += ticks;
            if (now >> 6 != line) {
                stripes[now >> 6 & LINES - 1] = border;
            }
        }

        int fetchAt(int address) {
            pass(delay(isShared(address)) + FETCH_TICKS);
            return byteAt(address);
        }

        int read(int address) {
            pass(delay(isShared(address)) + BYTE_TICKS);
            return byteAt(address);
        }

        void write(int address, int value) {
            pass(delay(isShared(address)) + BYTE_TICKS);
            if ((address & MEMORY - 1) >= FIRST_WRITABLE) {
                place(address, value);
            }
        }

        int readPort(int port) {
            if ((port & 1) == 1) {
                pass(PORT_TICKS);
                return 255;
            }
            pass(delay(true));
            recorder.follow(now);
            int value = 160 | recorder.level() << 6 | keyboard.upIn(port);
            pass(PORT_TICKS);
            return value;
        }

        void writePort(int port, int value) {
            if ((port & 1) == 1) {
                pass(PORT_TICKS);
                return;
            }
            // A line that begins with the access's last tick over has the new colour already.
            pass(delay(true) + PORT_TICKS - 1);
            border = value & 7;
            int heard = value >> 4 & 1;
            if (heard != speaker) {
                edges++;
            }
            speaker = heard;
            pass(1);
        }

        private static boolean isShared(int address) {
            return (address & 3072) == 1024;
        }

        private int delay(boolean shared) {
            int line = now >> 6 & LINES - 1;
            boolean slows = shared && line >= 16 && line <= 47 && (now & 63) < 32;
            return slows && (now & 7) < 6 ? 6 - (now & 7) : 0;
        }
    }

    /** The registers, in one row by the numbers that the face gives them. */
    private static final class Registers {
        static final int A = 0;
        static final int F = 1;
        static final int B = 2;
        static final int D = 4;
        static final int H = 6;
        static final int L = 7;
        static final int SECOND = 8;
        static final int I = 16;
        static final int R = 17;
        static final int X = 18;
        static final int Y = 19;
        static final int SP = 20;
        static final int PC = 21;
        static final int IFF1 = 22;
        static final int IFF2 = 23;
        static final int MODE = 24;
        static final int HALTED = 25;

        private final int[] row = new int[HALTED + 1];
        /** The number of what stands for HL: H, X or Y. */
        private int base = H;

        boolean change(int k, int value) {
            if (k < 0 || k > MODE || k == MODE && (value < 0 || value > 2)) {
                return false;
            }
            row[k] = value & widest(k);
            return true;
        }

        private static int widest(int k) {
            if (k < X) {
                return 255;
            }
            if (k <= PC) {
                return 65535;
            }
            return k == MODE ? 3 : 1;
        }

        int tell(int k) {
            return k < 0 || k > HALTED ? -1 : row[k];
        }

        int joined(int high) {
            return row[high] << 8 | row[high + 1];
        }

        void split(int high, int value) {
            row[high] = value >> 8 & 255;
            row[high + 1] = value & 255;
        }

        int hl() {
            return base == H ? joined(H) : row[base];
        }

        void setHl(int value) {
            if (base == H) {
                split(H, value);
            } else {
                row[base] = value & 65535;
            }
        }

        /** w(k): BC DE HL SP. */
        int pair(int k) {
            if (k == 3) {
                return row[SP];
            }
            return k == 2 ? hl() : joined(B + 2 * k);
        }

        void setPair(int k, int value) {
            if (k == 3) {
                row[SP] = value & 65535;
            } else if (k == 2) {
                setHl(value);
            } else {
                split(B + 2 * k, value);
            }
        }

        /** r(k): B C D E H L . A; the byte that M stands for is not in here. */
        int single(int k) {
            if (k == 7) {
                return row[A];
            }
            if (k < 4 || base == H) {
                return row[B + k];
            }
            return k == 4 ? row[base] >> 8 : row[base] & 255;
        }

        void setSingle(int k, int value) {
            if (k == 7) {
                row[A] = value;
            } else if (k < 4 || base == H) {
                row[B + k] = value;
            } else if (k == 4) {
                row[base] = row[base] & 255 | value << 8;
            } else {
                row[base] = row[base] & 65280 | value;
            }
        }

        void swap(int i, int j) {
            int kept = row[i];
            row[i] = row[j];
            row[j] = kept;
        }

        void swapWithSecond(int from, int to) {
            for (int k = from; k <= to && k < SECOND; k++) {
                swap(k, k + SECOND);
            }
        }
    }

    /** Arithmetic whose answer is a result and its flags in one number, as A and F are in AF. */
    private static final class Arithmetic {
        static final int S = 128;
        static final int Z = 64;
        static final int H = 16;
        static final int V = 4;
        static final int N = 2;
        static final int C = 1;
        /** The flags that are copies of bits: Y and X, without and with S. */
        static final int YX = 40;
        static final int SYX = 168;

        static int by(int v) {
            return v & SYX | (v == 0 ? Z : 0);
        }

        static int byWithParity(int v) {
            return by(v) | ((Integer.bitCount(v) & 1) == 0 ? V : 0);
        }

        static int plus(int a, int v, int carry) {
            int sum = a + v + carry;
            int overflow = (a ^ sum) & (v ^ sum) & 128;
            int flags = by(sum & 255) | (a ^ v ^ sum) & H | overflow >> 5 | sum >> 8 & C;
            return (sum & 255) << 8 | flags;
        }

        static int minus(int a, int v, int carry) {
            int rest = a - v - carry;
            int overflow = (a ^ v) & (a ^ rest) & 128;
            int flags = by(rest & 255) | (a ^ v ^ rest) & H | overflow >> 5 | N | rest >> 8 & C;
            return (rest & 255) << 8 | flags;
        }

        static int compared(int a, int v) {
            return a << 8 | minus(a, v, 0) & 255 & ~YX | v & YX;
        }

        static int logic(int result) {
            return result << 8 | byWithParity(result);
        }

        static int plusWide(int a, int w, int carry) {
            int sum = a + w + carry;
            int overflow = (a ^ sum) & (w ^ sum) & 32768;
            int flags = byWide(sum) | (a ^ w ^ sum) >> 8 & H | overflow >> 13 | sum >> 16 & C;
            return (sum & 65535) << 8 | flags;
        }

        static int minusWide(int a, int w, int carry) {
            int rest = a - w - carry;
            int overflow = (a ^ w) & (a ^ rest) & 32768;
            int flags = byWide(rest) | (a ^ w ^ rest) >> 8 & H | overflow >> 13 | N | rest >> 16 & C;
            return (rest & 65535) << 8 | flags;
        }

        private static int byWide(int v) {
            return v >> 8 & SYX | ((v & 65535) == 0 ? Z : 0);
        }

        /** RLC, RRC, RL, RR, SLA, SRA, SLL, SRL for y = 0 .. 7: the odd ones turn to the right. */
        static int turned(int y, int v, int carry) {
            boolean right = (y & 1) == 1;
            int out = right ? v & 1 : v >> 7;
            int in = comesIn(y, v, out, carry);
            int result = right ? v >> 1 | in << 7 : v << 1 & 255 | in;
            return result << 8 | byWithParity(result) | out;
        }

        private static int comesIn(int y, int v, int out, int carry) {
            switch (y) {
                case 0:
                case 1:
                    return out;
                case 2:
                case 3:
                    return carry;
                case 5:
                    return v >> 7;
                case 6:
                    return 1;
                default:
                    return 0;
            }
        }

        /** The flags of BIT y of v; C stays what it was. */
        static int bitFlags(int y, int v, int carry) {
            int bit = v & 1 << y;
            return bit & S | (bit == 0 ? Z | V : 0) | v & YX | H | carry;
        }

        static int adjusted(int a, int flags) {
            int d = (flags & H) != 0 || (a & 15) > 9 ? 6 : 0;
            int carry = (flags & C) != 0 || a > 153 ? C : 0;
            d += 96 * carry;
            int result = ((flags & N) != 0 ? a - d : a + d) & 255;
            return result << 8 | byWithParity(result) | (a ^ result) & H | flags & N | carry;
        }
    }

    /** Fetches instructions and does them. */
    private static final class Processor {
        private static final int WANTED_TICKS = 32;
        private static final int HALT = 118;
        private static final int ROTATIONS = 203;
        private static final int PREFIX_X = 221;
        private static final int MORE = 237;
        private static final int PREFIX_Y = 253;
        private static final int MOST_PREFIXES = 3;

        private final Board board;
        private final Registers registers = new Registers();
        private final int[] row = registers.row;
        /** The address of the byte that M stands for in this instruction. */
        private int placeOfM;
        /** No interrupt is taken right behind the instruction that allows them. */
        private boolean shielded;

        Processor(Board board) {
            this.board = board;
        }

        /** Does one instruction; taking an interrupt counts as one. */
        void next() {
            boolean mayTake = !shielded && row[Registers.IFF1] == 1;
            shielded = false;
            registers.base = Registers.H;
            if (mayTake && board.tickOfFrame() < WANTED_TICKS) {
                takeInterrupt();
                return;
            }
            if (row[Registers.HALTED] == 1) {
                board.fetchAt(row[Registers.PC]);
                refresh();
                return;
            }
            int b = fetchBehindPrefixes();
            if (isPrefix(b)) {
                return;
            }
            if (hasM(b)) {
                findM();
            }
            int y = b >> 3 & 7;
            int z = b & 7;
            if (b == ROTATIONS) {
                rotate();
            } else if (b == MORE) {
                registers.base = Registers.H;
                more(fetch());
            } else if (b == HALT) {
                row[Registers.HALTED] = 1;
            } else if (b < 64) {
                doFirst(y, z);
            } else if (b < 128) {
                setOperand(y, operand(z));
            } else if (b < 192) {
                operate(y, operand(z));
            } else if (z == 1) {
                popOrGo(y);
            } else if (z == 3) {
                doMixed(y);
            } else if (z == 5) {
                pushOrCall(y);
            } else {
                doLast(y, z);
            }
        }

        private void takeInterrupt() {
            row[Registers.HALTED] = 0;
            row[Registers.IFF1] = 0;
            row[Registers.IFF2] = 0;
            refresh();
            board.pass(Board.FETCH_TICKS);
            push(row[Registers.PC]);
            row[Registers.PC] = row[Registers.MODE] == 2 ? readWord(row[Registers.I] << 8 | 255) : 56;
        }

        private void refresh() {
            int r = row[Registers.R];
            row[Registers.R] = r & 128 | r + 1 & 127;
        }

        private int fetch() {
            int b = board.fetchAt(row[Registers.PC]);
            movePc(1);
            refresh();
            return b;
        }

        /** The opcode byte, or the prefix that is one too many. */
        private int fetchBehindPrefixes() {
            int b = fetch();
            for (int k = 0; k < MOST_PREFIXES && isPrefix(b); k++) {
                registers.base = b == PREFIX_X ? Registers.X : Registers.Y;
                b = fetch();
            }
            return b;
        }

        private static boolean isPrefix(int b) {
            return b == PREFIX_X || b == PREFIX_Y;
        }

        private static boolean hasM(int b) {
            int y = b >> 3 & 7;
            int z = b & 7;
            switch (b >> 6) {
                case 0:
                    return y == 6 && z >= 4 && z <= 6;
                case 1:
                    return (y == 6 || z == 6) && b != HALT;
                case 2:
                    return z == 6;
                default:
                    return false;
            }
        }

        /** Where M stands, H and L are themselves again, whatever the prefix was. */
        private void findM() {
            placeOfM = registers.hl();
            if (registers.base != Registers.H) {
                placeOfM = placeOfM + (byte) nextByte() & 65535;
                registers.base = Registers.H;
            }
        }

        private void movePc(int by) {
            row[Registers.PC] = row[Registers.PC] + by & 65535;
        }

        private int nextByte() {
            int v = board.read(row[Registers.PC]);
            movePc(1);
            return v;
        }

        private int nextWord() {
            int low = board.read(row[Registers.PC]);
            int high = board.read(row[Registers.PC] + 1);
            movePc(2);
            return high << 8 | low;
        }

        private int readWord(int address) {
            int low = board.read(address);
            return low | board.read(address + 1) << 8;
        }

        private void writeWord(int address, int value) {
            board.write(address, value);
            board.write(address + 1, value >> 8);
        }

        private int operand(int k) {
            return k == 6 ? board.read(placeOfM) : registers.single(k);
        }

        private void setOperand(int k, int value) {
            if (k == 6) {
                board.write(placeOfM, value);
            } else {
                registers.setSingle(k, value);
            }
        }

        private void push(int value) {
            row[Registers.SP] = row[Registers.SP] - 1 & 65535;
            board.write(row[Registers.SP], value >> 8);
            row[Registers.SP] = row[Registers.SP] - 1 & 65535;
            board.write(row[Registers.SP], value);
        }

        private int pop() {
            int value = readWord(row[Registers.SP]);
            row[Registers.SP] = row[Registers.SP] + 2 & 65535;
            return value;
        }

        private void call(int address) {
            push(row[Registers.PC]);
            row[Registers.PC] = address;
        }

        private boolean condition(int k) {
            int flag;
            switch (k >> 1) {
                case 0:
                    flag = Arithmetic.Z;
                    break;
                case 1:
                    flag = Arithmetic.C;
                    break;
                case 2:
                    flag = Arithmetic.V;
                    break;
                default:
                    flag = Arithmetic.S;
                    break;
            }
            return (row[Registers.F] & flag) != 0 == ((k & 1) == 1);
        }

        private int carry() {
            return row[Registers.F] & Arithmetic.C;
        }

        private void setFlags(int kept, int flags) {
            row[Registers.F] = row[Registers.F] & kept | flags;
        }

        private void doFirst(int y, int z) {
            int p = y >> 1;
            boolean q = (y & 1) == 1;
            switch (z) {
                case 0:
                    moveNear(y);
                    break;
                case 1:
                    if (q) {
                        addPair(p);
                    } else {
                        registers.setPair(p, nextWord());
                    }
                    break;
                case 2:
                    if (q) {
                        takeFrom(p);
                    } else {
                        putAt(p);
                    }
                    break;
                case 3:
                    registers.setPair(p, registers.pair(p) + (q ? -1 : 1));
                    break;
                case 4:
                case 5:
                    count(y, z == 5);
                    break;
                case 6:
                    setOperand(y, nextByte());
                    break;
                default:
                    changeA(y);
                    break;
            }
        }

        private void moveNear(int y) {
            if (y == 0) {
                return;
            }
            if (y == 1) {
                registers.swapWithSecond(Registers.A, Registers.F);
                return;
            }
            int e = (byte) nextByte();
            boolean goes = y == 3 || y > 3 && condition(y - 4);
            if (y == 2) {
                row[Registers.B] = row[Registers.B] - 1 & 255;
                goes = row[Registers.B] != 0;
            }
            if (goes) {
                movePc(e);
            }
        }

        private void addPair(int p) {
            int sum = Arithmetic.plusWide(registers.hl(), registers.pair(p), 0);
            registers.setHl(sum >> 8);
            int stays = Arithmetic.S | Arithmetic.Z | Arithmetic.V;
            setFlags(stays, sum & 255 & ~stays);
        }

        private void putAt(int p) {
            if (p < 2) {
                board.write(registers.pair(p), row[Registers.A]);
                return;
            }
            int nn = nextWord();
            if (p == 2) {
                writeWord(nn, registers.hl());
            } else {
                board.write(nn, row[Registers.A]);
            }
        }

        private void takeFrom(int p) {
            if (p == 2) {
                registers.setHl(readWord(nextWord()));
                return;
            }
            int address = p < 2 ? registers.pair(p) : nextWord();
            row[Registers.A] = board.read(address);
        }

        private void count(int y, boolean down) {
            int v = operand(y);
            int both = down ? Arithmetic.minus(v, 1, 0) : Arithmetic.plus(v, 1, 0);
            setFlags(Arithmetic.C, both & 255 & ~Arithmetic.C);
            setOperand(y, both >> 8);
        }

        private void changeA(int y) {
            int a = row[Registers.A];
            int stays = Arithmetic.S | Arithmetic.Z | Arithmetic.V;
            switch (y) {
                case 4:
                    registers.split(Registers.A, Arithmetic.adjusted(a, row[Registers.F]));
                    break;
                case 5:
                    row[Registers.A] = a ^ 255;
                    setFlags(stays | Arithmetic.C, (a ^ 255) & Arithmetic.YX | Arithmetic.H | Arithmetic.N);
                    break;
                case 6:
                    setFlags(stays, a & Arithmetic.YX | Arithmetic.C);
                    break;
                case 7:
                    setFlags(stays, a & Arithmetic.YX | (carry() == 1 ? Arithmetic.H : Arithmetic.C));
                    break;
                default:
                    int both = Arithmetic.turned(y, a, carry());
                    row[Registers.A] = both >> 8;
                    setFlags(stays, both & 255 & ~stays);
                    break;
            }
        }

        private void operate(int y, int v) {
            int a = row[Registers.A];
            int both;
            switch (y) {
                case 0:
                    both = Arithmetic.plus(a, v, 0);
                    break;
                case 1:
                    both = Arithmetic.plus(a, v, carry());
                    break;
                case 2:
                    both = Arithmetic.minus(a, v, 0);
                    break;
                case 3:
                    both = Arithmetic.minus(a, v, carry());
                    break;
                case 4:
                    both = Arithmetic.logic(a & v) | Arithmetic.H;
                    break;
                case 5:
                    both = Arithmetic.logic(a ^ v);
                    break;
                case 6:
                    both = Arithmetic.logic(a | v);
                    break;
                default:
                    both = Arithmetic.compared(a, v);
                    break;
            }
            registers.split(Registers.A, both);
        }

        private void doLast(int y, int z) {
            int nn = z == 2 || z == 4 ? nextWord() : 0;
            switch (z) {
                case 0:
                    if (condition(y)) {
                        row[Registers.PC] = pop();
                    }
                    break;
                case 2:
                    if (condition(y)) {
                        row[Registers.PC] = nn;
                    }
                    break;
                case 4:
                    if (condition(y)) {
                        call(nn);
                    }
                    break;
                case 6:
                    operate(y, nextByte());
                    break;
                default:
                    call(8 * y);
                    break;
            }
        }

        private void popOrGo(int y) {
            switch (y) {
                case 1:
                    row[Registers.PC] = pop();
                    break;
                case 3:
                    registers.swapWithSecond(Registers.B, Registers.L);
                    break;
                case 5:
                    row[Registers.PC] = registers.hl();
                    break;
                case 6:
                    registers.split(Registers.A, pop());
                    break;
                case 7:
                    row[Registers.SP] = registers.hl();
                    break;
                default:
                    registers.setPair(y >> 1, pop());
                    break;
            }
        }

        /** Prefixes and MORE do not come here, so an odd y is CALL. */
        private void pushOrCall(int y) {
            if ((y & 1) == 1) {
                call(nextWord());
            } else {
                push(y == 6 ? registers.joined(Registers.A) : registers.pair(y >> 1));
            }
        }

        private void doMixed(int y) {
            int a = row[Registers.A];
            switch (y) {
                case 0:
                    row[Registers.PC] = nextWord();
                    break;
                case 2:
                    board.writePort(a << 8 | nextByte(), a);
                    break;
                case 3:
                    row[Registers.A] = board.readPort(a << 8 | nextByte());
                    break;
                case 4:
                    int top = readWord(row[Registers.SP]);
                    writeWord(row[Registers.SP], registers.hl());
                    registers.setHl(top);
                    break;
                case 5:
                    registers.swap(Registers.D, Registers.H);
                    registers.swap(Registers.D + 1, Registers.L);
                    break;
                case 6:
                case 7:
                    row[Registers.IFF1] = y - 6;
                    row[Registers.IFF2] = y - 6;
                    shielded = y == 7;
                    break;
                default:
                    break;
            }
        }

        /** Behind a prefix, the byte in memory is turned whatever z is, and r(z) gets it too. */
        private void rotate() {
            boolean prefixed = registers.base != Registers.H;
            findM();
            int b = prefixed ? nextByte() : fetch();
            int y = b >> 3 & 7;
            int z = b & 7;
            int v = operand(prefixed ? 6 : z);
            if (b >> 6 == 1) {
                row[Registers.F] = Arithmetic.bitFlags(y, v, carry());
                return;
            }
            int result = changedByte(b >> 6, y, v);
            if (prefixed) {
                setOperand(6, result);
            }
            if (!prefixed || z != 6) {
                setOperand(z, result);
            }
        }

        private int changedByte(int x, int y, int v) {
            if (x == 2) {
                return v & ~(1 << y);
            }
            if (x == 3) {
                return v | 1 << y;
            }
            int both = Arithmetic.turned(y, v, carry());
            row[Registers.F] = both & 255;
            return both >> 8;
        }

        private void more(int b) {
            int y = b >> 3 & 7;
            int z = b & 7;
            if (b >> 6 == 2 && y >= 4 && z < 2) {
                if (z == 0) {
                    moveByte(y);
                } else {
                    lookAtByte(y);
                }
            }
            if (b >> 6 != 1) {
                return;
            }
            switch (z) {
                case 0:
                    takeFromPort(y);
                    break;
                case 1:
                    board.writePort(registers.joined(Registers.B), y == 6 ? 0 : registers.single(y));
                    break;
                case 2:
                    sumWithCarry(y);
                    break;
                case 3:
                    passPair(y);
                    break;
                case 4:
                    registers.split(Registers.A, Arithmetic.minus(0, row[Registers.A], 0));
                    break;
                case 5:
                    row[Registers.PC] = pop();
                    row[Registers.IFF1] = row[Registers.IFF2];
                    break;
                case 6:
                    row[Registers.MODE] = Math.max(0, (y & 3) - 1);
                    break;
                default:
                    doSpecial(y);
                    break;
            }
        }

        private void takeFromPort(int y) {
            int v = board.readPort(registers.joined(Registers.B));
            setFlags(Arithmetic.C, Arithmetic.byWithParity(v));
            if (y != 6) {
                registers.setSingle(y, v);
            }
        }

        private void sumWithCarry(int y) {
            int w = registers.pair(y >> 1);
            int both = (y & 1) == 1
                    ? Arithmetic.plusWide(registers.hl(), w, carry())
                    : Arithmetic.minusWide(registers.hl(), w, carry());
            row[Registers.F] = both & 255;
            registers.setHl(both >> 8);
        }

        private void passPair(int y) {
            int nn = nextWord();
            if ((y & 1) == 1) {
                registers.setPair(y >> 1, readWord(nn));
            } else {
                writeWord(nn, registers.pair(y >> 1));
            }
        }

        private void doSpecial(int y) {
            switch (y) {
                case 0:
                    row[Registers.I] = row[Registers.A];
                    break;
                case 1:
                    row[Registers.R] = row[Registers.A];
                    break;
                case 2:
                case 3:
                    int v = row[y == 2 ? Registers.I : Registers.R];
                    row[Registers.A] = v;
                    setFlags(Arithmetic.C, Arithmetic.by(v) | row[Registers.IFF2] * Arithmetic.V);
                    break;
                case 4:
                case 5:
                    turnTwelveBits(y == 5);
                    break;
                default:
                    break;
            }
        }

        private void turnTwelveBits(boolean left) {
            int v = board.read(registers.hl());
            int half = row[Registers.A] & 15;
            board.write(registers.hl(), left ? v << 4 | half : half << 4 | v >> 4);
            int a = row[Registers.A] & 240 | (left ? v >> 4 : v & 15);
            row[Registers.A] = a;
            setFlags(Arithmetic.C, Arithmetic.byWithParity(a));
        }

        private void moveByte(int y) {
            int v = board.read(registers.hl());
            board.write(registers.joined(Registers.D), v);
            int by = (y & 1) == 0 ? 1 : -1;
            registers.split(Registers.D, registers.joined(Registers.D) + by);
            int flags = advance(by, row[Registers.A] + v);
            setFlags(Arithmetic.S | Arithmetic.Z | Arithmetic.C, flags);
            if (y >= 6 && (flags & Arithmetic.V) != 0) {
                movePc(-2);
            }
        }

        private void lookAtByte(int y) {
            int v = board.read(registers.hl());
            int both = Arithmetic.minus(row[Registers.A], v, 0);
            int lessByOne = (both & Arithmetic.H) != 0 ? 1 : 0;
            int flags = advance((y & 1) == 0 ? 1 : -1, (both >> 8) - lessByOne);
            setFlags(Arithmetic.C, flags | both & (Arithmetic.S | Arithmetic.Z | Arithmetic.H | Arithmetic.N));
            if (y >= 6 && (flags & Arithmetic.V) != 0 && both >> 8 != 0) {
                movePc(-2);
            }
        }

        /** Goes on to the next byte of a block: the flags Y and X by t, and V while bytes are left. */
        private int advance(int by, int t) {
            registers.setHl(registers.hl() + by);
            int left = registers.joined(Registers.B) - 1 & 65535;
            registers.split(Registers.B, left);
            return (t & 2) << 4 | t & 8 | (left != 0 ? Arithmetic.V : 0);
        }
    }
}
