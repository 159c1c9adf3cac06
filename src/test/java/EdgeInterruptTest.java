/** Interrupts that are wanted at an end and such as are not, at every cycle of every code; and the jam. */
public final class EdgeInterruptTest {
    private static final Check CHECK = new Check();
    private static final int I = 4;
    private static final int NEVER = -1;

    public static void main(String[] args) {
        for (int code = 0; code < 256; code++) {
            int length = lengthOf(code, 0);
            if (length == NEVER) {
                jam(code);
            } else {
                irq(code, length);
                irqIsMasked(code);
                irqBehindTheEnd(code, length);
                nmi(code, length);
                nmiBehindTheEnd(code, length);
            }
        }
        iOfTheEnd();
        irqAsLongAsItIsOn();
        irqWithinAnInterrupt();
        nmiWithinAnInterrupt();
        nmiWithinItsOwnInterrupt();
        nmiGoesFromOffToOn();
        nmiAndIrqTogether();
        nmiTwiceBeforeTheEnd();
        aWaitingReadingServesNothing();
        pushedP();
        soGoesFromOffToOn();
        CHECK.finish();
    }

    private static int read(int address, int b) {
        return Chips.read(address, b);
    }

    private static int write(int address, int b) {
        return Chips.write(address, b);
    }

    /** NMI's vector is 784, RESET's 800, the other one 816; "nothing" is there and behind the code. */
    private static ClockedChip chip(int code, int p) {
        ClockedChip chip = Chips.at(600, code, 120, 2, Chips.NOTHING, Chips.NOTHING);
        Chips.put(chip, 632, Chips.NOTHING, Chips.NOTHING, Chips.NOTHING);
        Chips.put(chip, 784, Chips.NOTHING, Chips.NOTHING, Chips.NOTHING);
        Chips.put(chip, 800, Chips.NOTHING, Chips.NOTHING, Chips.NOTHING);
        Chips.put(chip, 816, Chips.NOTHING, Chips.NOTHING, Chips.NOTHING);
        Chips.put(chip, 1018, 16, 3, 32, 3, 48, 3);
        // The bytes that are pulled: flags that are P's, then the address 632.
        Chips.put(chip, 257, p, 120, 2, 2);
        chip.set(Chips.P, p);
        return chip;
    }

    private static int lengthOf(int code, int p) {
        ClockedChip chip = chip(code, p);
        for (int length = 1; length < 8; length++) {
            chip.cycle();
            if (chip.register(Chips.DONE) == 0) {
                return length;
            }
        }
        return NEVER;
    }

    /** Puts "nothing" where the chip goes on, whatever the code before has left there. */
    private static void nothingIsNext(ClockedChip chip) {
        int pc = chip.register(Chips.PC);
        Chips.put(chip, pc, Chips.NOTHING, Chips.NOTHING, Chips.NOTHING);
    }

    private static boolean masks(ClockedChip chip) {
        return (chip.register(Chips.P) & I) != 0;
    }

    /** The first cycle tells: an instruction's makes PC 1 more, and an interrupt's refuses set. */
    private static void nextIsInterrupt(String what, ClockedChip chip, boolean due) {
        int pc = chip.register(Chips.PC);
        CHECK.fails(what + ": set", due ? IllegalStateException.class : null, () -> chip.set(Chips.PC, pc));
        CHECK.same(what + ": nothing is done of what is next", chip.register(Chips.DONE), 0);
        CHECK.trace(what, chip, read(pc, chip.peek(pc)));
        CHECK.same(what + ": PC", chip.register(Chips.PC), due ? pc : (pc + 1) % 65536);
    }

    /** "IRQ wants one as long as it is on and I is 0 ... if one is wanted then." */
    private static void irq(int code, int length) {
        for (int on = 0; on < length; on++) {
            String what = "code " + code + ", IRQ at " + on;
            ClockedChip stays = chip(code, 0);
            stays.cycles(on);
            stays.pin(Chips.IRQ, true);
            CHECK.same(what + " is at its end", stays.cycles(length - on), 1);
            nextIsInterrupt(what, stays, !masks(stays));

            ClockedChip goes = chip(code, 0);
            goes.cycles(on);
            goes.pin(Chips.IRQ, true);
            goes.cycles(length - 1 - on);
            goes.pin(Chips.IRQ, false);
            goes.cycle();
            nextIsInterrupt(what + " and off before the last cycle", goes, false);

            ClockedChip late = chip(code, 0);
            late.cycles(on);
            late.pin(Chips.IRQ, true);
            late.cycles(length - on);
            late.pin(Chips.IRQ, false);
            nextIsInterrupt(what + " and off behind the end", late, !masks(late));
        }
    }

    private static void irqIsMasked(int code) {
        int length = lengthOf(code, I);
        ClockedChip chip = chip(code, I);
        chip.pin(Chips.IRQ, true);
        chip.cycles(length);
        nextIsInterrupt("code " + code + " with I 1", chip, code == Chips.I_OFF);
    }

    private static void irqBehindTheEnd(int code, int length) {
        ClockedChip chip = chip(code, 0);
        chip.cycles(length);
        nothingIsNext(chip);
        chip.pin(Chips.IRQ, true);
        nextIsInterrupt("code " + code + ", IRQ behind the end", chip, false);
        chip.cycle();
        nextIsInterrupt("code " + code + ", IRQ at the next end", chip, !masks(chip));
    }

    /** "NMI: when it goes from off to on an interrupt is WANTED, until it is served": whatever I is. */
    private static void nmi(int code, int length) {
        int vector = length - 2;
        for (int on = 0; on < length; on++) {
            for (int p = 0; p <= I; p += I) {
                ClockedChip chip = chip(code, p);
                chip.cycles(on);
                chip.pin(Chips.NMI, true);
                chip.pin(Chips.NMI, false);
                chip.cycles(length - on);
                boolean served = code == Chips.BREAK && on <= vector;
                String what = "code " + code + ", NMI at " + on;
                if (code == Chips.BREAK) {
                    CHECK.same(what + ", PC", chip.register(Chips.PC), served ? 784 : 816);
                }
                nextIsInterrupt(what, chip, !served);
                if (!served) {
                    chip.cycles(4);
                    CHECK.trace(what + ", vector", chip, read(65530, 16), read(65531, 3));
                    nextIsInterrupt(what + " is served", chip, false);
                }
            }
        }
    }

    private static void nmiBehindTheEnd(int code, int length) {
        ClockedChip chip = chip(code, 0);
        chip.cycles(length);
        nothingIsNext(chip);
        chip.pin(Chips.NMI, true);
        nextIsInterrupt("code " + code + ", NMI behind the end", chip, false);
        chip.cycle();
        nextIsInterrupt("code " + code + ", NMI at the next end", chip, true);
    }

    /** "JAM: from then on every cycle is idle 65535": whatever the pins do. */
    private static void jam(int code) {
        ClockedChip chip = chip(code, 0);
        chip.pin(Chips.NMI, true);
        chip.pin(Chips.IRQ, true);
        CHECK.trace("jam of " + code, chip, read(600, code), read(65535, 3), read(65535, 3), read(65535, 3));
        chip.pin(Chips.NMI, false);
        chip.pin(Chips.NMI, true);
        CHECK.same("jam of " + code + " ends nothing", chip.cycles(200), 0);
        chip.pin(Chips.READY, false);
        CHECK.trace("jam of " + code + " waits", chip, read(65535, 3), read(65535, 3));
        chip.pin(Chips.READY, true);
        chip.poke(1023, 99);
        CHECK.trace("jam of " + code + " reads", chip, read(65535, 99));
        CHECK.registers("jam of " + code, chip, 0, 0, 0, 0, 601, 32, 1, 1);
        chip.poke(1023, 3);
        chip.reset();
        CHECK.registers("jam of " + code + " is over", chip, 0, 0, 0, 0, 601, 32, 0, 0);
        CHECK.same("RESET from the jam of " + code, chip.cycles(7), 1);
        nextIsInterrupt("neither NMI nor IRQ behind the jam of " + code, chip, false);
        chip.cycle();
        nextIsInterrupt("nor later", chip, false);
    }

    /** I as it is at the end: rows are a code, I before it, the flags it pulls, and whether one begins. */
    private static void iOfTheEnd() {
        int[][] rows = {
            {Chips.I_OFF, 0, 0, 1}, {Chips.I_OFF, I, 0, 1}, {Chips.I_ON, 0, 0, 0}, {Chips.I_ON, I, 0, 0},
            {Chips.PULL_FLAGS, 0, 0, 1}, {Chips.PULL_FLAGS, 0, I, 0}, {Chips.PULL_FLAGS, I, 0, 1},
            {Chips.PULL_FLAGS, I, 203, 1}, {Chips.PULL_FLAGS, I, 255, 0}, {Chips.RETURN_FROM_INTERRUPT, 0, 0, 1},
            {Chips.RETURN_FROM_INTERRUPT, 0, I, 0}, {Chips.RETURN_FROM_INTERRUPT, I, 0, 1},
            {Chips.RETURN_FROM_INTERRUPT, I, I, 0}, {Chips.BREAK, 0, 0, 0}, {Chips.BREAK, I, 0, 0},
            {Chips.NOTHING, 203, 0, 1}, {Chips.NOTHING, 207, 0, 0},
        };
        for (int[] row : rows) {
            ClockedChip chip = chip(row[0], row[1]);
            chip.poke(257, row[2]);
            chip.pin(Chips.IRQ, true);
            chip.cycles(lengthOf(row[0], row[1]));
            nextIsInterrupt("code " + row[0] + ", P " + row[1] + ", pulled " + row[2], chip, row[3] == 1);
        }
    }

    /** It is still on when I becomes 0 again: each return is followed by an interrupt. */
    private static void irqAsLongAsItIsOn() {
        ClockedChip chip = chip(Chips.NOTHING, 0);
        chip.poke(816, Chips.RETURN_FROM_INTERRUPT);
        chip.pin(Chips.IRQ, true);
        chip.cycles(2);
        for (int i = 0; i < 3; i++) {
            CHECK.trace("interrupt " + i, chip, read(601, 120), read(601, 120), write(256, 2), write(511, 89),
                write(510, 32), read(65534, 48), read(65535, 3));
            CHECK.same("return " + i, chip.cycles(6), 1);
            CHECK.same("S " + i, chip.register(Chips.S), 0);
        }
        chip.pin(Chips.IRQ, false);
        CHECK.same("one has begun", chip.cycles(13), 2);
        nextIsInterrupt("it is off", chip, false);
    }

    /** I is 1 with the push of P: IRQ that stays on is not wanted at the interrupt's end. */
    private static void irqWithinAnInterrupt() {
        ClockedChip chip = chip(Chips.NOTHING, 0);
        chip.pin(Chips.IRQ, true);
        CHECK.same("instruction and interrupt", chip.cycles(9), 2);
        nextIsInterrupt("IRQ at the interrupt's end", chip, false);
        ClockedChip off = chip(Chips.NOTHING, 0);
        off.pin(Chips.IRQ, true);
        off.cycles(2);
        off.pin(Chips.IRQ, false);
        CHECK.trace("it has begun", off, read(601, 120), read(601, 120), write(256, 2), write(511, 89), write(510, 32),
            read(65534, 48), read(65535, 3));
    }

    /** "if NMI wants it then, it is 65530, and NMI is served by that; otherwise 65534." */
    private static void nmiWithinAnInterrupt() {
        for (int on = 0; on < 7; on++) {
            ClockedChip chip = chip(Chips.NOTHING, 0);
            chip.pin(Chips.IRQ, true);
            chip.cycles(2 + on);
            chip.pin(Chips.NMI, true);
            chip.cycles(7 - on);
            boolean served = on < 6;
            CHECK.same("NMI at " + on + " of an interrupt, PC", chip.register(Chips.PC), served ? 784 : 816);
            nextIsInterrupt("NMI at " + on + " of an interrupt", chip, !served);
        }
    }

    /** Once the vector's first byte is read NMI is served: a later edge wants another interrupt. */
    private static void nmiWithinItsOwnInterrupt() {
        for (int on = 0; on < 7; on++) {
            ClockedChip chip = chip(Chips.NOTHING, 0);
            chip.pin(Chips.NMI, true);
            chip.cycles(2 + on);
            chip.pin(Chips.NMI, false);
            chip.pin(Chips.NMI, true);
            chip.cycles(7 - on);
            CHECK.same("NMI again at " + on + ", PC", chip.register(Chips.PC), 784);
            nextIsInterrupt("NMI again at " + on, chip, on == 6);
        }
    }

    /** Only from off to on: not when it is on already, and not when it goes off. */
    private static void nmiGoesFromOffToOn() {
        ClockedChip chip = chip(Chips.NOTHING, 0);
        chip.pin(Chips.NMI, false);
        chip.cycles(2);
        nothingIsNext(chip);
        nextIsInterrupt("off, and off again", chip, false);
        chip.pin(Chips.NMI, true);
        chip.cycle();
        CHECK.same("interrupt", chip.cycles(7), 1);
        chip.pin(Chips.NMI, true);
        chip.cycles(2);
        nextIsInterrupt("on, and on again", chip, false);
        chip.pin(Chips.NMI, false);
        chip.cycle();
        nextIsInterrupt("from on to off", chip, false);
        chip.pin(Chips.NMI, true);
        chip.cycle();
        nextIsInterrupt("from off to on", chip, true);
    }

    /** NMI has the vector, and with its I IRQ is not wanted; a return to I 0 brings IRQ's. */
    private static void nmiAndIrqTogether() {
        ClockedChip chip = chip(Chips.NOTHING, 0);
        chip.poke(784, Chips.RETURN_FROM_INTERRUPT);
        chip.pin(Chips.IRQ, true);
        chip.pin(Chips.NMI, true);
        chip.cycles(7);
        CHECK.trace("NMI first", chip, read(65530, 16), read(65531, 3), read(784, 175), read(785, 7));
        chip.cycles(4);
        CHECK.trace("then IRQ", chip, read(601, 120), read(601, 120), write(256, 2), write(511, 89), write(510, 32),
            read(65534, 48), read(65535, 3));
    }

    private static void nmiTwiceBeforeTheEnd() {
        ClockedChip chip = chip(Chips.NOTHING, 0);
        for (int i = 0; i < 3; i++) {
            chip.pin(Chips.NMI, true);
            chip.pin(Chips.NMI, false);
        }
        CHECK.same("instruction and one interrupt", chip.cycles(9), 2);
        nextIsInterrupt("three times are one", chip, false);
    }

    /** A reading of the vector that READY makes wait is only that: NMI is still wanted. */
    private static void aWaitingReadingServesNothing() {
        ClockedChip chip = chip(Chips.NOTHING, 0);
        chip.pin(Chips.NMI, true);
        chip.cycles(7);
        chip.pin(Chips.READY, false);
        CHECK.trace("it waits", chip, read(65530, 16), read(65530, 16), read(65530, 16));
        chip.pin(Chips.READY, true);
        CHECK.trace("it is served", chip, read(65530, 16));
        chip.pin(Chips.READY, false);
        CHECK.trace("the second byte waits", chip, read(65531, 3), read(65531, 3));
        CHECK.same("PC waits", chip.register(Chips.PC), 601);
        chip.pin(Chips.READY, true);
        CHECK.trace("the second byte", chip, read(65531, 3));
        CHECK.same("PC", chip.register(Chips.PC), 784);
        nextIsInterrupt("it was served", chip, false);
    }

    /** "push P (with 16 more for BREAK), I is 1": the pushed I is the one before. */
    private static void pushedP() {
        for (int p : new int[] {0, 1, 2, I, 8, 64, 128, 203, 207}) {
            ClockedChip broken = chip(Chips.BREAK, p);
            broken.cycles(4);
            CHECK.trace("BREAK with P " + p, broken, write(510, p + 48));
            CHECK.same("P behind BREAK's push", broken.register(Chips.P), p | 36);
            ClockedChip nmi = chip(Chips.NOTHING, p);
            nmi.pin(Chips.NMI, true);
            nmi.cycles(6);
            CHECK.trace("NMI with P " + p, nmi, write(510, p + 32));
            CHECK.same("P behind the push", nmi.register(Chips.P), p | 36);
        }
    }

    /** "SO: when it goes from off to on V becomes 1." */
    private static void soGoesFromOffToOn() {
        ClockedChip chip = chip(Chips.NOTHING, 0);
        chip.pin(Chips.SO, false);
        CHECK.same("off, and off again", chip.register(Chips.P), 32);
        chip.pin(Chips.SO, true);
        CHECK.same("from off to on", chip.register(Chips.P), 96);
        chip.set(Chips.P, 143);
        chip.pin(Chips.SO, true);
        CHECK.same("on, and on again", chip.register(Chips.P), 175);
        chip.pin(Chips.SO, false);
        CHECK.same("from on to off", chip.register(Chips.P), 175);
        chip.pin(Chips.SO, true);
        CHECK.same("the other flags are left", chip.register(Chips.P), 239);
        chip.pin(Chips.SO, false);
        CHECK.same("V is left when it goes off", chip.register(Chips.P), 239);
    }
}
