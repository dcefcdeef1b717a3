/** Promise 10: jumps, calls and returns. */
final class P10JumpsTest {
    private static final int[] FLAG = {64, 64, 1, 1, 4, 4, 128, 128};

    public static void main(String[] args) {
        for (int f = 0; f < 256; f++) {
            for (int k = 0; k < 8; k++) {
                conditional(k, f);
            }
        }
        always();
        near();
        countedLoop();
        fixedCalls();
        Check.end();
    }

    private static boolean holds(int k, int f) {
        boolean isSet = (f & FLAG[k]) != 0;
        return k % 2 == 1 ? isSet : !isSet;
    }

    private static Lab prepared(int f, int... code) {
        return Lab.with(code).set(Lab.F, f).put(4000, 0x21, 0x93);
    }

    private static void after(String name, Lab lab, int ticks, int pc, int sp) {
        int f = lab.get(Lab.F);
        Check.same("ticks of " + name, lab.step(), ticks);
        Check.same("PC after " + name, lab.get(Lab.PC), pc);
        Check.same("SP after " + name, lab.get(Lab.SP), sp);
        Check.same("flags after " + name, lab.get(Lab.F), f);
        if (sp == 3998) {
            int length = ticks == 10 ? 1 : 3;
            Check.same("low byte on the stack after " + name, lab.peek(3998), Lab.HOME + length & 255);
            Check.same("high byte on the stack after " + name, lab.peek(3999), Lab.HOME + length >> 8);
        }
    }

    private static void conditional(int k, int f) {
        boolean goes = holds(k, f);
        String name = " if " + k + ", F = " + f;
        int behind = Lab.HOME + 3;
        after("RETURN" + name, prepared(f, 192 + 8 * k), goes ? 10 : 4,
                goes ? 0x9321 : Lab.HOME + 1, goes ? 4002 : 4000);
        after("PC = nn" + name, prepared(f, 194 + 8 * k, 0x45, 0x87), 10, goes ? 0x8745 : behind, 4000);
        after("CALL" + name, prepared(f, 196 + 8 * k, 0x45, 0x87), goes ? 16 : 10,
                goes ? 0x8745 : behind, goes ? 3998 : 4000);
        if (k < 4) {
            after("near" + name, prepared(f, 32 + 8 * k, 100), 7, Lab.HOME + (goes ? 102 : 2), 4000);
        }
    }

    private static void always() {
        after("PC = nn", prepared(0, 195, 0x45, 0x87), 10, 0x8745, 4000);
        after("CALL nn", prepared(255, 205, 0x45, 0x87), 16, 0x8745, 3998);
        after("RETURN", prepared(0, 201), 10, 0x9321, 4002);
    }

    private static void near() {
        for (int e = -128; e <= 127; e++) {
            after("PC grows by " + e, prepared(0, 24, e), 7, Lab.HOME + 2 + e, 4000);
        }
        Lab lab = Lab.with().put(0, 24, 250).set(Lab.PC, 0);
        lab.step();
        Check.same("PC falls below 0", lab.get(Lab.PC), 65532);
        lab = Lab.with().put(4090, 24, 100).set(Lab.PC, 65530);
        lab.step();
        Check.same("PC grows beyond 65535", lab.get(Lab.PC), 96);
    }

    private static void countedLoop() {
        for (int b = 0; b < 256; b++) {
            Lab lab = prepared(b ^ 85, 16, 251).set(Lab.B, b);
            after("loop with B = " + b, lab, 7, Lab.HOME + (b == 1 ? 2 : -3), 4000);
            Check.same("B after " + b, lab.get(Lab.B), b == 0 ? 255 : b - 1);
        }
    }

    private static void fixedCalls() {
        for (int y = 0; y < 8; y++) {
            after("CALL 8 * " + y, prepared(y * 30, 199 + 8 * y), 10, 8 * y, 3998);
        }
    }
}
