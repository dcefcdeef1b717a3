import java.util.ArrayList;
import java.util.List;

/**
 * "A call that is refused changes nothing.": each refused call is made on computers in the midst of something, and
 * whatever can be asked then, and later, is answered as without the call. Asking for all bytes takes more calls than
 * one object has, so the computers are made anew for each part of what is asked.
 */
final class EdgeRefusalTest {
    private static final int PARTS = 17;
    private static final int BYTES_A_PART = 400;

    public static void main(String[] args) {
        List<Scene> scenes = List.of(EdgeRefusalTest::fresh, EdgeRefusalTest::playing,
                EdgeRefusalTest::stoppedHigh, EdgeRefusalTest::halted, EdgeRefusalTest::justAllowed);
        String[] names = {"a new object", "a playing tape", "a full tape, stopped", "HALT", "interrupts just allowed"};
        for (int k = 0; k < scenes.size(); k++) {
            String[] before = new String[PARTS];
            for (int part = 0; part < PARTS; part++) {
                before[part] = asked(scenes.get(k).make(), part);
            }
            for (Refused call : refusedCalls(names[k])) {
                for (int part = 0; part < PARTS; part++) {
                    Lab lab = scenes.get(k).make();
                    Check.same(call.name + " in " + names[k], call.how.answer(lab.computer), call.due);
                    Check.same("part " + part + " after " + call.name + " in " + names[k], asked(lab, part),
                            before[part]);
                }
            }
        }
        Check.end();
    }

    private interface Scene {
        Lab make();
    }

    private interface How {
        int answer(HomeComputer computer);
    }

    private static final class Refused {
        final String name;
        final int due;
        final How how;

        Refused(String name, int due, How how) {
            this.name = name;
            this.due = due;
            this.how = how;
        }
    }

    private static Lab fresh() {
        return new Lab();
    }

    /** Numbers everywhere, keys down, a border and a speaker that were written, a tape in its second pulse. */
    private static Lab playing() {
        Lab lab = P10ArithmeticTest.numbered(211, 254, 60, 24, 251);
        lab.put(0, 1, 2, 3, 4).put(1021, 5, 6, 7, 8, 9, 10).put(4092, 11, 12, 13, 14).set(Lab.I, 33).set(Lab.R, 44);
        lab.set(Lab.A, 22).set(Lab.IFF2, 1).set(Lab.MODE, 2);
        everyOtherKey(lab, 0);
        lab.computer.step(70);
        for (int ticks : new int[] {10, 50, 31, 7, 400}) {
            lab.computer.pulse(ticks);
        }
        lab.computer.tape(1);
        lab.computer.step(3);
        Check.same("it plays", lab.computer.look(5), 1);
        return lab;
    }

    /** Of two keys side by side one is down, so that a key too many or too few can be seen anywhere. */
    private static void everyOtherKey(Lab lab, int first) {
        for (int k = first; k < 40; k += 2) {
            lab.computer.key(k / 5, k % 5, true);
        }
    }

    private static Lab stoppedHigh() {
        Lab lab = Lab.with(62, 9, 24, 252);
        for (int k = 0; k < 40; k++) {
            lab.computer.pulse(5 + k);
        }
        everyOtherKey(lab, 1);
        lab.computer.tape(1);
        lab.step();
        lab.computer.tape(0);
        Check.same("the level is high", lab.computer.look(4), 1);
        return lab;
    }

    private static Lab halted() {
        Lab lab = Lab.with(118, 60, 60).waitUntil(40).set(Lab.IFF1, 1).set(Lab.IFF2, 1).set(Lab.MODE, 1);
        lab.computer.pulse(1000);
        lab.step();
        Check.same("HALT lasts", lab.get(Lab.HALTED), 1);
        return lab;
    }

    private static Lab justAllowed() {
        Lab lab = Lab.with(251, 60, 60, 60);
        lab.step();
        return lab;
    }

    private static List<Refused> refusedCalls(String scene) {
        List<Refused> calls = new ArrayList<>();
        for (int n : new int[] {0, -1, 5, Integer.MIN_VALUE, Integer.MAX_VALUE}) {
            calls.add(new Refused("load of " + n, 0, x -> x.load(1022, 0x7F8E9DAC, n) ? 1 : 0));
            calls.add(new Refused("load of " + n, 0, x -> x.load(4094, 0x7F8E9DAC, n) ? 1 : 0));
        }
        for (int k : new int[] {-1, 25, 26, Integer.MIN_VALUE, Integer.MAX_VALUE}) {
            calls.add(new Refused("set(" + k + ", 1)", 0, x -> x.set(k, 1) ? 1 : 0));
            calls.add(new Refused("set(" + k + ", 0)", 0, x -> x.set(k, 0) ? 1 : 0));
        }
        for (int mode : new int[] {-1, 3, 4, 256, Integer.MIN_VALUE, Integer.MAX_VALUE}) {
            calls.add(new Refused("set(24, " + mode + ")", 0, x -> x.set(24, mode) ? 1 : 0));
        }
        for (int far : new int[] {-1, 26, Integer.MIN_VALUE, Integer.MAX_VALUE}) {
            calls.add(new Refused("register(" + far + ")", -1, x -> x.register(far)));
            calls.add(new Refused("look(" + far + ")", -1, x -> x.look(far)));
        }
        calls.add(new Refused("look(7)", -1, x -> x.look(7)));
        for (int line : new int[] {-1, 64, Integer.MIN_VALUE, Integer.MAX_VALUE}) {
            calls.add(new Refused("stripe(" + line + ")", -1, x -> x.stripe(line)));
        }
        int[][] keys = {{-1, 0}, {8, 0}, {0, -1}, {0, 5}, {7, 5}, {8, 4}, {-1, -1}, {Integer.MAX_VALUE, 0},
            {0, Integer.MIN_VALUE}};
        for (int[] key : keys) {
            for (boolean down : new boolean[] {true, false}) {
                calls.add(new Refused("key(" + key[0] + ", " + key[1] + ", " + down + ")", 0,
                        x -> x.key(key[0], key[1], down) ? 1 : 0));
            }
        }
        for (int n : new int[] {0, -1, 101, Integer.MIN_VALUE, Integer.MAX_VALUE}) {
            calls.add(new Refused("step(" + n + ")", -1, x -> x.step(n)));
        }
        addTapeCalls(calls, scene);
        return calls;
    }

    private static void addTapeCalls(List<Refused> calls, String scene) {
        for (int ticks : new int[] {0, -1, 10001, Integer.MIN_VALUE, Integer.MAX_VALUE}) {
            calls.add(new Refused("pulse(" + ticks + ")", 0, x -> x.pulse(ticks) ? 1 : 0));
        }
        for (int what : new int[] {-1, 3, Integer.MIN_VALUE, Integer.MAX_VALUE}) {
            calls.add(new Refused("tape(" + what + ")", 0, x -> x.tape(what) ? 1 : 0));
        }
        if (scene.contains("tape")) {
            calls.add(new Refused("pulse(1)", 0, x -> x.pulse(1) ? 1 : 0));
            calls.add(new Refused("pulse(10000)", 0, x -> x.pulse(10000) ? 1 : 0));
        }
        if (scene.equals("a new object")) {
            calls.add(new Refused("tape(1)", 0, x -> x.tape(1) ? 1 : 0));
        }
    }

    /** One part of all that can be asked of a computer. */
    private static String asked(Lab lab, int part) {
        switch (part) {
            case 0:
                return all(lab);
            case 1:
                return later(lab);
            case 2:
                return keys(lab);
            case 3:
                return tapeGoesOn(lab);
            case 4:
                return pulses(lab);
            case 5:
                return room(lab);
            default:
                return bytes(lab, (part - 6) * BYTES_A_PART);
        }
    }

    private static String all(Lab lab) {
        StringBuilder text = new StringBuilder();
        for (int k = 0; k <= 25; k++) {
            text.append(lab.get(k)).append(' ');
        }
        for (int what = 0; what <= 6; what++) {
            text.append(lab.computer.look(what)).append(' ');
        }
        for (int line = 0; line < 64; line++) {
            text.append(lab.computer.stripe(line)).append(' ');
        }
        return text.toString();
    }

    private static String later(Lab lab) {
        StringBuilder text = new StringBuilder();
        for (int k = 0; k < 12; k++) {
            text.append(lab.step()).append(' ').append(lab.get(Lab.PC)).append(' ').append(lab.get(Lab.R)).append(' ');
        }
        text.append(lab.computer.frame()).append(' ').append(lab.computer.step(100)).append(' ');
        return text.append(all(lab)).toString();
    }

    private static String keys(Lab lab) {
        lab.put(3000, 237, 120, 24, 252).set(Lab.PC, 3000).set(Lab.IFF1, 0).set(Lab.C, 254);
        StringBuilder text = new StringBuilder();
        for (int row = 0; row < 8; row++) {
            lab.set(Lab.PC, 3000).set(Lab.B, 255 - (1 << row)).step();
            text.append(lab.get(Lab.A) & 31).append(' ');
        }
        return text.toString();
    }

    private static String tapeGoesOn(Lab lab) {
        StringBuilder text = new StringBuilder();
        for (int k = 0; k < 80; k++) {
            text.append(lab.computer.look(4)).append(lab.computer.look(5)).append(lab.computer.look(6)).append(' ');
            lab.step();
        }
        return text.toString();
    }

    /** The lengths of all pulses, as far as two instructions of 4 ticks can tell. */
    private static String pulses(Lab lab) {
        lab.set(Lab.PC, 3000).set(Lab.IFF1, 0);
        StringBuilder text = new StringBuilder();
        text.append(lab.computer.tape(1));
        for (int k = 0; k < 150; k++) {
            lab.computer.step(2);
            text.append(' ').append(lab.computer.look(6));
        }
        return text.toString();
    }

    /** How many more pulses the tape takes when it has stopped. */
    private static String room(Lab lab) {
        lab.computer.tape(0);
        int taken = 0;
        for (int k = 0; k < 45; k++) {
            taken += lab.computer.pulse(1) ? 1 : 0;
        }
        return "room for " + taken;
    }

    private static String bytes(Lab lab, int from) {
        StringBuilder text = new StringBuilder();
        for (int k = 0; k < BYTES_A_PART; k++) {
            text.append(lab.peek(from + k)).append(' ');
        }
        return text.toString();
    }
}
