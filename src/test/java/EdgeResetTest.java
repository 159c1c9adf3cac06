/** RESET "from the next cycle on": out of every cycle of every code, of an interrupt, of RESET and of the jam. */
public final class EdgeResetTest {
    private static final Check CHECK = new Check();
    private static final int MOST_CYCLES_OF_ONE = 7;

    public static void main(String[] args) {
        for (int code = 0; code < 256; code++) {
            for (int cycle = 0; cycle <= MOST_CYCLES_OF_ONE; cycle++) {
                ClockedChip chip = chip(code);
                chip.cycles(cycle);
                isReset("code " + code + " at " + cycle, chip);
            }
        }
        for (int cycle = 0; cycle <= MOST_CYCLES_OF_ONE; cycle++) {
            fromAnInterrupt(cycle);
            fromReset(cycle);
        }
        nmiIsNotWantedAnyMore();
        nmiThatStaysOn();
        nmiWithinReset();
        irqIsMaskedBehindIt();
        iIsOneOnlyWithTheVector();
        vSetWithinReset();
        aNewChip();
        pinsStay();
        CHECK.finish();
    }

    private static int read(int address, int b) {
        return Chips.read(address, b);
    }

    private static ClockedChip chip(int code) {
        ClockedChip chip = Chips.at(600, code, 240, 2, Chips.NOTHING);
        Chips.put(chip, 240, 250, 1, 230);
        Chips.put(chip, 800, Chips.NOTHING, Chips.NOTHING, Chips.NOTHING, Chips.NOTHING);
        Chips.put(chip, 1018, 20, 3, 32, 3, 60, 3);
        int[] values = {71, 19, 37, 1, 600, 64};
        for (int which = 0; which < 6; which++) {
            chip.set(which, values[which]);
        }
        return chip;
    }

    /** "the next cycles are idle PC, idle PC, idle 256 + S three times with S 1 less behind each, then ... 65532". */
    private static void isReset(String what, ClockedChip chip) {
        int[] was = new int[6];
        for (int which = 0; which < 6; which++) {
            was[which] = chip.register(which);
        }
        int pc = was[Chips.PC];
        chip.reset();
        for (int cycle = 0; cycle < 7; cycle++) {
            int less = cycle < 2 ? 0 : Math.min(cycle - 2, 3);
            int s = Math.floorMod(was[Chips.S] - less, 256);
            int p = cycle < 6 ? was[Chips.P] : was[Chips.P] | 4;
            CHECK.registers(what + ", RESET at " + cycle, chip, was[0], was[1], was[2], s, pc, p, 0, cycle);
            int address = cycle < 2 ? pc : cycle < 5 ? 256 + s : 65532 + cycle - 5;
            CHECK.trace(what + ", RESET at " + cycle, chip, read(address, chip.peek(address)));
        }
        int s = Math.floorMod(was[Chips.S] - 3, 256);
        int behind = chip.peek(1020) + 256 * chip.peek(1021);
        CHECK.registers(what + ", behind RESET", chip, was[0], was[1], was[2], s, behind, was[Chips.P] | 4, 0, 0);
        CHECK.trace(what + ", the next instruction", chip, read(behind, chip.peek(behind)));
        CHECK.same(what + ", its PC", chip.register(Chips.PC), (behind + 1) % 65536);
    }

    private static void fromAnInterrupt(int cycle) {
        for (int pin : new int[] {Chips.NMI, Chips.IRQ}) {
            ClockedChip chip = chip(Chips.NOTHING);
            chip.pin(pin, true);
            chip.cycles(2 + cycle);
            isReset("interrupt " + pin + " at " + cycle, chip);
        }
    }

    /** Another RESET begins anew, and S goes on from where it is. */
    private static void fromReset(int cycle) {
        ClockedChip chip = chip(Chips.NOTHING);
        chip.reset();
        chip.cycles(cycle);
        isReset("RESET at " + cycle, chip);
    }

    private static void nmiIsNotWantedAnyMore() {
        for (int cycle = 0; cycle < 8; cycle++) {
            ClockedChip chip = chip(Chips.NOTHING);
            chip.pin(Chips.NMI, true);
            chip.cycles(cycle);
            chip.reset();
            CHECK.same("RESET alone is at its end", chip.cycles(7), 1);
            CHECK.trace("NMI before RESET, at " + cycle, chip, read(800, 7), read(801, 7), read(801, 7), read(802, 7));
            CHECK.same("PC", chip.register(Chips.PC), 802);
        }
    }

    /** It was on before RESET: only the next time it goes from off to on is it wanted. */
    private static void nmiThatStaysOn() {
        ClockedChip chip = chip(Chips.NOTHING);
        chip.pin(Chips.NMI, true);
        chip.reset();
        CHECK.same("RESET leaves the pin", chip.pin(Chips.NMI, true), true);
        chip.cycles(9);
        CHECK.same("an instruction", chip.register(Chips.PC), 801);
        chip.pin(Chips.NMI, false);
        chip.pin(Chips.NMI, true);
        CHECK.trace("an instruction, then NMI", chip, read(801, 7), read(802, 7), read(802, 7), read(802, 7),
            Chips.write(510, 3));
    }

    /** The vector is RESET's own; NMI waits for the end. */
    private static void nmiWithinReset() {
        for (int cycle = 0; cycle < 7; cycle++) {
            ClockedChip chip = chip(Chips.NOTHING);
            chip.reset();
            chip.cycles(cycle);
            chip.pin(Chips.NMI, true);
            chip.cycles(7 - cycle);
            CHECK.same("NMI at " + cycle + " of RESET", chip.register(Chips.PC), 800);
            CHECK.trace("NMI behind RESET, from " + cycle, chip, read(800, 7), read(800, 7), Chips.write(510, 3),
                Chips.write(509, 32), Chips.write(508, 100), read(65530, 20), read(65531, 3));
        }
    }

    private static void irqIsMaskedBehindIt() {
        ClockedChip chip = chip(Chips.NOTHING);
        chip.pin(Chips.IRQ, true);
        chip.reset();
        chip.cycles(7);
        CHECK.same("RESET leaves the pin", chip.pin(Chips.IRQ, true), true);
        CHECK.same("instructions alone", chip.cycles(4), 2);
        CHECK.same("PC", chip.register(Chips.PC), 802);
        chip.set(Chips.P, 0);
        CHECK.trace("I is 0", chip, read(802, 7), read(803, 7), read(803, 7), read(803, 7), Chips.write(510, 3));
    }

    /** "I with the push of P (with RESET, when the vector's first byte is read)". */
    private static void iIsOneOnlyWithTheVector() {
        ClockedChip chip = chip(Chips.NOTHING);
        chip.reset();
        chip.cycles(5);
        CHECK.same("before the vector", chip.register(Chips.P), 96);
        chip.pin(Chips.READY, false);
        CHECK.trace("the vector waits", chip, read(65532, 32), read(65532, 32));
        CHECK.same("while it waits", chip.register(Chips.P), 96);
        chip.pin(Chips.READY, true);
        CHECK.trace("the vector", chip, read(65532, 32));
        CHECK.same("behind its first byte", chip.register(Chips.P), 100);
    }

    private static void vSetWithinReset() {
        ClockedChip chip = chip(Chips.NOTHING);
        chip.set(Chips.P, 0);
        chip.reset();
        chip.cycles(3);
        chip.pin(Chips.SO, true);
        CHECK.same("V at once", chip.register(Chips.P), 96);
        chip.cycles(4);
        CHECK.same("V and I", chip.register(Chips.P), 100);
    }

    private static void aNewChip() {
        ClockedChip chip = new ClockedChip();
        isReset("a new chip", chip);
        CHECK.same("S of a new chip", chip.register(Chips.S), 253);
    }

    /** RESET turns no pin, neither at once nor by its cycles. */
    private static void pinsStay() {
        for (int pin = 0; pin < 4; pin++) {
            for (boolean on : new boolean[] {true, false}) {
                ClockedChip chip = chip(Chips.NOTHING);
                chip.pin(pin, on);
                chip.reset();
                CHECK.same("pin " + pin + " at once", chip.pin(pin, on), on);
                chip.cycles(9);
                CHECK.same("pin " + pin + " behind RESET", chip.pin(pin, on), on);
            }
        }
    }
}
