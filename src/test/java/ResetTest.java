/** Promise 7: reset. */
public final class ResetTest {
    private static final Check CHECK = new Check();

    public static void main(String[] args) {
        betweenInstructions();
        withinAnInstruction();
        insteadOfAnInterrupt();
        fromTheJam();
        twice();
        nmi();
        ready();
        CHECK.finish();
    }

    private static int read(int address, int b) {
        return Chips.read(address, b);
    }

    private static ClockedChip chip(int pc, int... bytes) {
        ClockedChip chip = Chips.at(pc, bytes);
        Chips.put(chip, 1018, 0, 2, 32, 3, 64, 2);
        Chips.put(chip, 800, Chips.NOTHING, Chips.NOTHING);
        return chip;
    }

    private static void betweenInstructions() {
        ClockedChip chip = chip(0x1234, 55);
        chip.set(Chips.A, 1);
        chip.set(Chips.X, 2);
        chip.set(Chips.Y, 3);
        chip.set(Chips.S, 1);
        chip.set(Chips.P, 203);
        Chips.put(chip, 256, 21, 22);
        chip.poke(511, 23);
        chip.reset();
        CHECK.registers("nothing before the first cycle", chip, 1, 2, 3, 1, 0x1234, 235, 0, 0);
        CHECK.trace("RESET", chip, read(0x1234, 55), read(0x1234, 55), read(257, 22), read(256, 21), read(511, 23));
        CHECK.registers("I is not 1 yet", chip, 1, 2, 3, 254, 0x1234, 235, 0, 5);
        CHECK.trace("RESET", chip, read(65532, 32));
        CHECK.registers("I is 1", chip, 1, 2, 3, 254, 0x1234, 239, 0, 6);
        CHECK.trace("RESET", chip, read(65533, 3));
        CHECK.registers("at its end", chip, 1, 2, 3, 254, 800, 239, 0, 0);
        CHECK.trace("the instruction", chip, read(800, 7), read(801, 7));
        CHECK.same("the stack is not written", chip.peek(257), 22);
    }

    private static void withinAnInstruction() {
        ClockedChip chip = chip(0, Chips.code(Chips.STORE_A, 3), 100, 2);
        chip.cycles(3);
        chip.reset();
        CHECK.same("cycles done", chip.register(Chips.DONE), 0);
        CHECK.trace("PC as it was", chip, read(3, 0), read(3, 0), read(256, 0), read(511, 0), read(510, 0));
        ClockedChip changing = chip(0, Chips.code(Chips.LESS, 1), 100);
        changing.cycles(4);
        changing.reset();
        CHECK.same("RESET, then the first instruction", changing.cycles(9), 2);
        CHECK.same("nothing is changed", changing.peek(100), 0);
        CHECK.same("N of nothing", changing.register(Chips.P), 36);
    }

    private static void insteadOfAnInterrupt() {
        ClockedChip chip = chip(0, Chips.NOTHING, 12);
        chip.pin(Chips.IRQ, true);
        chip.cycles(2);
        chip.reset();
        CHECK.trace("no interrupt", chip, read(1, 12), read(1, 12), read(256, 0), read(511, 0), read(510, 0),
            read(65532, 32), read(65533, 3), read(800, 7), read(801, 7), read(801, 7));
        CHECK.same("I keeps IRQ out", chip.register(Chips.PC), 802);
        ClockedChip pushing = chip(0, Chips.BREAK, 12);
        pushing.cycles(4);
        pushing.reset();
        CHECK.trace("within BREAK", pushing, read(2, 0), read(2, 0), read(510, 0), read(509, 0), read(508, 0),
            read(65532, 32), read(65533, 3), read(800, 7));
    }

    private static void fromTheJam() {
        ClockedChip chip = chip(0, Chips.JAM);
        chip.cycles(20);
        CHECK.registers("jammed", chip, 0, 0, 0, 0, 1, 32, 1, 1);
        chip.reset();
        CHECK.registers("the jam is over", chip, 0, 0, 0, 0, 1, 32, 0, 0);
        CHECK.trace("from the jam", chip, read(1, 0), read(1, 0), read(256, 0), read(511, 0), read(510, 0),
            read(65532, 32), read(65533, 3), read(800, 7), read(801, 7));
        CHECK.same("instructions again", chip.cycles(2), 1);
    }

    private static void twice() {
        ClockedChip chip = chip(40);
        chip.reset();
        chip.cycles(4);
        chip.reset();
        CHECK.trace("from the beginning", chip, read(40, 0), read(40, 0), read(510, 0), read(509, 0), read(508, 0),
            read(65532, 32), read(65533, 3));
        CHECK.same("S", chip.register(Chips.S), 251);
        chip.reset();
        chip.reset();
        CHECK.same("two calls at once are one", chip.cycles(7), 1);
        CHECK.same("S of one", chip.register(Chips.S), 248);
    }

    private static void nmi() {
        ClockedChip chip = chip(0, Chips.NOTHING, 12);
        chip.cycle();
        chip.pin(Chips.NMI, true);
        chip.reset();
        CHECK.trace("NMI is not wanted any more", chip, read(1, 12), read(1, 12), read(256, 0), read(511, 0),
            read(510, 0), read(65532, 32), read(65533, 3), read(800, 7), read(801, 7), read(801, 7), read(802, 0));
        ClockedChip later = chip(0);
        later.reset();
        later.cycles(3);
        later.pin(Chips.NMI, true);
        CHECK.trace("NMI within RESET has not RESET's vector, but the end", later, read(511, 0), read(510, 0),
            read(65532, 32), read(65533, 3), read(800, 7), read(800, 7), Chips.write(509, 3), Chips.write(508, 32),
            Chips.write(507, 36), read(65530, 0), read(65531, 2));
        CHECK.same("PC", later.register(Chips.PC), 512);
    }

    private static void ready() {
        ClockedChip chip = chip(0, 12);
        chip.pin(Chips.READY, false);
        chip.reset();
        CHECK.trace("RESET waits", chip, read(0, 12), read(0, 12), read(0, 12));
        chip.pin(Chips.READY, true);
        chip.cycles(2);
        chip.pin(Chips.READY, false);
        CHECK.trace("S waits", chip, read(256, 0), read(256, 0));
        chip.pin(Chips.READY, true);
        chip.cycles(3);
        chip.pin(Chips.READY, false);
        CHECK.trace("I waits", chip, read(65532, 32), read(65532, 32));
        CHECK.same("P", chip.register(Chips.P), 32);
        chip.pin(Chips.READY, true);
        CHECK.trace("RESET goes on", chip, read(65532, 32), read(65533, 3), read(800, 7));
    }
}
