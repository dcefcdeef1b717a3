/** The edges of HALT and the interrupt. */
final class EdgeInterruptTest {
    public static void main(String[] args) {
        ticksThatWant();
        onlyBeforeAnInstruction();
        afterAllowing();
        allowingTooLate();
        allowingOverCalls();
        allowingWithoutAnEffect();
        forbidding();
        countsAsAnInstruction();
        flagsOfItsOwn();
        modes();
        modesBySet();
        haltLasts();
        haltEnds();
        haltAtTheEndOfSlowedMemory();
        returning();
        Check.end();
    }

    /** "wanted while the tick of the frame is below 32", in the first frame and in later ones. */
    private static void ticksThatWant() {
        // The ticks that instructions of 4 and 7 ticks, not slowed, can end at.
        for (int tick : new int[] {7, 8, 11, 12, 14, 15, 16, 18, 19, 20, 27, 28, 29, 30, 31, 32, 33, 34, 35, 36, 40}) {
            taken("tick " + tick, Lab.with(60).waitUntil(tick).set(Lab.IFF1, 1), tick < 32);
        }
        taken("tick 0", Lab.with(60).set(Lab.IFF1, 1), true);
        for (int tick : new int[] {64, 96, 128, 1024, 2048, 4064, 4095}) {
            taken("tick " + tick, Lab.with(60).waitUntil(tick).set(Lab.IFF1, 1), false);
        }
        for (int tick = 0; tick <= 40; tick += 4) {
            for (int frames = 1; frames < 4; frames++) {
                Lab lab = Lab.with(60).set(Lab.PC, 3000).put(3000, 118);
                for (int k = 0; k < frames; k++) {
                    lab.computer.frame();
                }
                if (tick > 0) {
                    lab.computer.step(tick / 4);
                }
                lab.set(Lab.IFF1, 1).step();
                Check.same("HALT at tick " + tick + " of frame " + frames, lab.get(Lab.HALTED), tick < 32 ? 0 : 1);
            }
        }
    }

    private static void taken(String name, Lab lab, boolean due) {
        int pc = lab.get(Lab.PC);
        Check.same("ticks at " + name, lab.step(), due ? 10 : 4);
        Check.same("PC at " + name, lab.get(Lab.PC), due ? 56 : pc + 1);
        Check.same("A at " + name, lab.get(Lab.A), due ? 0 : 1);
        Check.same("IFF1 at " + name, lab.get(Lab.IFF1), due ? 0 : 1);
        Check.same("SP at " + name, lab.get(Lab.SP), due ? 3998 : 4000);
    }

    /** "it is taken before an instruction if IFF1 is set" */
    private static void onlyBeforeAnInstruction() {
        taken("a frame's beginning, IFF1 set in it", afterCalls(Lab.with(60), 22), true);
        Lab lab = Lab.with(60).set(Lab.IFF2, 1);
        Check.same("IFF2 alone", lab.step(), 4);
        lab = Lab.with(221, 221, 221, 60).waitUntil(4095).set(Lab.IFF1, 1);
        Check.same("not between prefixes", lab.step(), 16);
        Check.same("A behind the prefixes", lab.get(Lab.A), 1);
        taken("the tick behind them", lab.set(Lab.A, 0), true);
        lab = Lab.with(203, 199, 60).waitUntil(4093).set(Lab.IFF1, 1);
        Check.same("not between 203 and its byte", lab.step(), 8);
        taken("the tick behind it", lab.set(Lab.A, 0), true);
    }

    private static Lab afterCalls(Lab lab, int register) {
        lab.computer.peek(0);
        lab.computer.look(0);
        return lab.set(register, 1);
    }

    /** "no interrupt is taken before the next instruction" */
    private static void afterAllowing() {
        Lab lab = Lab.with(251, 60, 60);
        lab.step();
        Check.same("the instruction behind is done", lab.step(), 4);
        Check.same("A", lab.get(Lab.A), 1);
        Check.same("then the interrupt", lab.step(), 10);
        Check.same("where it came from", lab.peek(3998), Lab.HOME + 2 & 255);
        lab = Lab.with(251, 221, 54, 1, 9, 60).set(Lab.X, 3000);
        lab.step();
        Check.same("a long instruction behind", lab.step(), 17);
        Check.same("then the interrupt", lab.step(), 10);
        lab = Lab.with(251, 221, 221, 221, 221, 60);
        lab.step();
        Check.same("four prefixes are an instruction, too", lab.step(), 16);
        Check.same("then the interrupt", lab.step(), 10);
        lab = Lab.with(221, 251, 60);
        Check.same("allowing behind a prefix", lab.step(), 8);
        Check.same("the instruction behind is done", lab.step(), 4);
        Check.same("then the interrupt", lab.step(), 10);
        lab = Lab.with(251, 237, 176, 60).setPair(Lab.B, 9).setPair(Lab.H, 3000).setPair(Lab.D, 3100);
        lab.computer.step(3);
        Check.same("one move and then the interrupt", lab.pair(Lab.B), 8);
        Check.same("PC", lab.get(Lab.PC), 56);
        lab = Lab.with(251, 118, 60);
        lab.computer.step(2);
        Check.same("HALT is done first", lab.get(Lab.HALTED), 1);
        Check.same("then the interrupt", lab.step(), 10);
        Check.same("it ends HALT", lab.get(Lab.HALTED), 0);
    }

    /** The instruction behind ends at tick 31 or 32: the window is seen again only then. */
    private static void allowingTooLate() {
        Lab lab = Lab.with(251, 0, 60).waitUntil(23);
        lab.computer.step(2);
        taken("tick 31 behind allowing", lab, true);
        lab = Lab.with(251, 0, 60).waitUntil(24);
        lab.computer.step(2);
        taken("tick 32 behind allowing", lab, false);
        lab = Lab.with(251, 60).waitUntil(28);
        lab.step();
        taken("tick 32 right behind allowing", lab, false);
        lab = Lab.with(251, 0, 60).waitUntil(4090);
        lab.computer.step(2);
        taken("tick 2 of the next frame", lab, true);
        lab = Lab.with(251, 60, 60).waitUntil(4092);
        lab.step();
        Check.same("at tick 0 the instruction behind comes first", lab.step(), 4);
        taken("tick 4", lab.set(Lab.A, 0), true);
    }

    /** Other calls in between do not end what allowing holds off; a refused step does not, either. */
    private static void allowingOverCalls() {
        Lab lab = Lab.with(251, 60, 60);
        lab.step();
        lab.computer.step(0);
        lab.computer.step(101);
        lab.computer.look(5);
        lab.set(Lab.IFF1, 0).set(Lab.IFF1, 1).set(Lab.MODE, 1).put(100, 1);
        Check.same("the instruction behind is still done", lab.step(), 4);
        Check.same("A", lab.get(Lab.A), 1);
        Check.same("then the interrupt", lab.step(), 10);
        lab = Lab.with(251, 60, 60);
        Check.same("allowing, an instruction, the interrupt in one call", lab.computer.step(3), 18);
        Check.same("PC", lab.get(Lab.PC), 56);
        lab = Lab.with(251, 60, 60).waitUntil(4093);
        Check.same("allowing ends the frame", lab.computer.frame(), 1);
        Check.same("the instruction behind comes first in the next one", lab.step(), 4);
        Check.same("then the interrupt", lab.step(), 10);
    }

    /** Allowing twice holds off twice; by set there is nothing that holds off. */
    private static void allowingWithoutAnEffect() {
        Lab lab = Lab.with(251, 251, 60, 60);
        lab.computer.step(3);
        Check.same("behind the second one", lab.get(Lab.A), 1);
        Check.same("then the interrupt", lab.step(), 10);
        taken("IFF1 by set", Lab.with(60).set(Lab.IFF1, 1).set(Lab.IFF2, 1), true);
        taken("IFF1 by set with lowest bit", Lab.with(60).set(Lab.IFF1, -1), true);
        lab = Lab.with(60).set(Lab.IFF1, 2);
        Check.same("IFF1 by set without the lowest bit", lab.step(), 4);
        lab = Lab.with(251, 237, 69, 60).put(4000, 0x03, 0x08);
        lab.computer.step(2);
        Check.same("IFF1 behind RETURN", lab.get(Lab.IFF1), 1);
        Check.same("RETURN with IFF1 = IFF2 holds nothing off", lab.step(), 10);
    }

    private static void forbidding() {
        Lab lab = Lab.with(251, 243, 60);
        lab.computer.step(2);
        Check.same("IFF1", lab.get(Lab.IFF1), 0);
        Check.same("IFF2", lab.get(Lab.IFF2), 0);
        Check.same("no interrupt", lab.step(), 4);
        lab = Lab.with(243, 60).set(Lab.IFF1, 1).set(Lab.IFF2, 1);
        Check.same("the interrupt comes before forbidding", lab.step(), 10);
        Check.same("where it came from", lab.peek(3998), Lab.HOME & 255);
    }

    /** "(It counts as an instruction.)" */
    private static void countsAsAnInstruction() {
        Lab lab = Lab.with(60, 60).put(56, 4, 4, 4).set(Lab.IFF1, 1);
        Check.same("the interrupt and two more", lab.computer.step(3), 18);
        Check.same("B", lab.get(Lab.B), 2);
        Check.same("A", lab.get(Lab.A), 0);
        lab = Lab.with(60).put(56, 118).set(Lab.IFF1, 1);
        Check.same("frame with the interrupt", lab.computer.frame(), 1 + (4096 - 10 + 3) / 4);
    }

    /** "HALT ends, IFF1 and IFF2 not, R as by a fetch, 4 ticks; PUSH PC" and nothing else. */
    private static void flagsOfItsOwn() {
        Lab lab = P10ArithmeticTest.numbered(60).set(Lab.IFF1, 1).set(Lab.IFF2, 1).set(Lab.R, 127).set(Lab.I, 9);
        int[] due = new int[26];
        for (int k = 0; k < 26; k++) {
            due[k] = lab.get(k);
        }
        due[Lab.IFF1] = 0;
        due[Lab.IFF2] = 0;
        due[Lab.R] = 0;
        due[Lab.SP] = 3998;
        due[Lab.PC] = 56;
        Check.same("ticks", lab.step(), 10);
        for (int k = 0; k < 26; k++) {
            Check.same("register " + k, lab.get(k), due[k]);
        }
    }

    /** "MODE is 0, 0, 1, 2 for y & 3 = 0 .. 3", and what the modes do. */
    private static void modes() {
        int[] modes = {0, 0, 1, 2, 0, 0, 1, 2};
        for (int y = 0; y < 8; y++) {
            for (int before = 0; before < 3; before++) {
                Lab lab = Lab.with(237, 70 + 8 * y).set(Lab.MODE, before).set(Lab.I, 9).put(2559, 0x34, 0x12);
                lab.step();
                Check.same("mode by y " + y, lab.get(Lab.MODE), modes[y]);
                Check.same("ticks by y " + y, lab.set(Lab.IFF1, 1).step(), modes[y] == 2 ? 16 : 10);
                Check.same("PC by y " + y, lab.get(Lab.PC), modes[y] == 2 ? 0x1234 : 56);
            }
        }
    }

    /** "24 MODE (0 .. 2)": a mode that is refused leaves the one before. */
    private static void modesBySet() {
        for (int mode = 0; mode < 3; mode++) {
            for (int refused : new int[] {3, 4, -1, 255, 256, 65536, Integer.MIN_VALUE, Integer.MAX_VALUE}) {
                Lab lab = Lab.with(60).set(Lab.MODE, mode).set(Lab.I, 9).put(2559, 0x34, 0x12);
                Check.no("set(24, " + refused + ")", lab.computer.set(Lab.MODE, refused));
                Check.same("mode", lab.get(Lab.MODE), mode);
                lab.set(Lab.IFF1, 1).step();
                Check.same("PC", lab.get(Lab.PC), mode == 2 ? 0x1234 : 56);
            }
        }
    }

    /** "as long as it lasts, an instruction is fetching the byte at PC (and R), PC staying" */
    private static void haltLasts() {
        Lab lab = Lab.with(118, 62, 9);
        lab.computer.step(100);
        Check.same("PC", lab.get(Lab.PC), Lab.HOME + 1);
        Check.same("A", lab.get(Lab.A), 0);
        Check.same("R", lab.get(Lab.R), 100);
        Check.no("set(25, 0) is refused", lab.computer.set(Lab.HALTED, 0));
        Check.same("HALT lasts", lab.get(Lab.HALTED), 1);
        lab.set(Lab.PC, 65535).step();
        Check.same("PC set meanwhile", lab.get(Lab.PC), 65535);
        Check.same("HALT lasts", lab.get(Lab.HALTED), 1);
        lab.set(Lab.IFF1, 1).step();
        Check.same("beyond tick 31 it lasts with IFF1, too", lab.get(Lab.HALTED), 1);
        lab.computer.frame();
        lab.step();
        Check.same("the PC set meanwhile is pushed", lab.peek(3998) + 256 * lab.peek(3999), 65535);
    }

    private static void haltEnds() {
        Lab lab = Lab.with(118, 60).put(56, 201).waitUntil(40).set(Lab.IFF1, 1);
        lab.computer.frame();
        Check.same("HALT lasts to tick 0", lab.get(Lab.HALTED), 1);
        lab.computer.step(3);
        Check.same("the instruction behind HALT", lab.get(Lab.A), 1);
        Check.same("HALT has ended", lab.get(Lab.HALTED), 0);
        lab = Lab.with(118, 60).waitUntil(40);
        lab.computer.frame();
        lab.computer.frame();
        Check.same("without IFF1 it does not end", lab.get(Lab.HALTED), 1);
        lab.set(Lab.IFF1, 1).step();
        Check.same("with IFF1 it ends", lab.get(Lab.HALTED), 0);
    }

    private static void haltAtTheEndOfSlowedMemory() {
        Lab lab = Lab.with().waitUntil(1024).set(Lab.PC, 2047).put(2047, 118);
        Check.same("HALT at 2047", lab.step(), 10);
        Check.same("the byte at 2048 is fetched then", lab.step(), 4);
        lab = Lab.with().waitUntil(1024).set(Lab.PC, 1023).put(1023, 118);
        Check.same("HALT at 1023", lab.step(), 4);
        Check.same("the byte at 1024 is fetched then", lab.step(), 4 + 2);
    }

    /** "RETURN, IFF1 = IFF2" */
    private static void returning() {
        for (int y = 0; y < 8; y++) {
            for (int iff = 0; iff < 4; iff++) {
                Lab lab = Lab.with(237, 69 + 8 * y).waitUntil(40).put(4000, 0x21, 0x93);
                lab.set(Lab.IFF1, iff & 1).set(Lab.IFF2, iff >> 1).step();
                Check.same("IFF1 from " + iff, lab.get(Lab.IFF1), iff >> 1);
                Check.same("IFF2 from " + iff, lab.get(Lab.IFF2), iff >> 1);
                Check.same("PC", lab.get(Lab.PC), 0x9321);
            }
        }
        Lab lab = Lab.with(201).waitUntil(40).set(Lab.IFF2, 1);
        lab.step();
        Check.same("the plain RETURN leaves IFF1", lab.get(Lab.IFF1), 0);
    }
}
