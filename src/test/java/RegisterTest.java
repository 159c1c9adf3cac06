/** Promises 8 and 9: register and set. */
public final class RegisterTest {
    private static final Check CHECK = new Check();

    public static void main(String[] args) {
        values();
        wrongNumbers();
        onlyBeforeAnInstruction();
        whenItIsSeen();
        CHECK.finish();
    }

    private static void values() {
        ClockedChip chip = new ClockedChip();
        for (int which = 0; which < 5; which++) {
            chip.set(which, 100 + which);
        }
        chip.set(Chips.P, 128 + 8);
        CHECK.registers("set", chip, 100, 101, 102, 103, 104, 168, 0, 0);
        for (int which = 0; which < 4; which++) {
            chip.set(which, 256);
            CHECK.same("256 in " + which, chip.register(which), 0);
            chip.set(which, -1);
            CHECK.same("-1 in " + which, chip.register(which), 255);
            chip.set(which, Integer.MIN_VALUE + 5);
            CHECK.same("the least and 5 in " + which, chip.register(which), 5);
        }
        chip.set(Chips.PC, 65536);
        CHECK.same("65536 in PC", chip.register(Chips.PC), 0);
        chip.set(Chips.PC, -2);
        CHECK.same("-2 in PC", chip.register(Chips.PC), 65534);
        chip.set(Chips.PC, 1024);
        CHECK.same("1024 in PC", chip.register(Chips.PC), 1024);
        for (int bit = 1; bit < 256; bit *= 2) {
            chip.set(Chips.P, bit);
            CHECK.same(bit + " in P", chip.register(Chips.P), bit == 16 ? 32 : bit | 32);
        }
        chip.set(Chips.P, 256);
        CHECK.same("256 in P", chip.register(Chips.P), 32);
        chip.set(Chips.P, -1);
        CHECK.same("-1 in P", chip.register(Chips.P), 239);
    }

    private static void wrongNumbers() {
        ClockedChip chip = new ClockedChip();
        Class<IndexOutOfBoundsException> due = IndexOutOfBoundsException.class;
        int[] wrong = {-1, 8, 9, Integer.MIN_VALUE, Integer.MAX_VALUE};
        for (int which : wrong) {
            CHECK.fails("register " + which, due, () -> chip.register(which));
            CHECK.fails("set " + which, due, () -> chip.set(which, 0));
        }
        CHECK.fails("set 6", due, () -> chip.set(6, 1));
        CHECK.fails("set 7", due, () -> chip.set(7, 1));
        CHECK.registers("nothing is set", chip, 0, 0, 0, 0, 0, 32, 0, 0);
        chip.cycle();
        CHECK.fails("set 6 within an instruction", due, () -> chip.set(6, 1));
        CHECK.fails("set -1 within an instruction", due, () -> chip.set(-1, 1));
    }

    private static void onlyBeforeAnInstruction() {
        ClockedChip chip = Chips.at(0, Chips.code(Chips.MORE, 4), 0, 1, Chips.NOTHING);
        Chips.put(chip, 1018, 0, 2, 0, 2);
        Chips.put(chip, 512, Chips.JAM);
        for (int i = 0; i < 7; i++) {
            if (i > 0) {
                refused("cycle " + i + " of MORE", chip);
            }
            CHECK.same("cycles done", chip.register(Chips.DONE), i);
            chip.cycle();
        }
        accepted("behind MORE", chip);
        chip.cycle();
        refused("within nothing", chip);
        chip.pin(Chips.NMI, true);
        chip.cycle();
        for (int i = 0; i < 7; i++) {
            CHECK.same("cycles of the interrupt done", chip.register(Chips.DONE), i);
            refused("cycle " + i + " of an interrupt", chip);
            chip.cycle();
        }
        accepted("behind an interrupt", chip);
        chip.cycle();
        refused("jammed", chip);
        CHECK.same("jammed", chip.register(Chips.JAMMED), 1);
        CHECK.same("1 when it is jammed", chip.register(Chips.DONE), 1);
        chip.cycles(5);
        CHECK.same("still 1 when it is jammed", chip.register(Chips.DONE), 1);
        chip.reset();
        CHECK.same("no more jammed", chip.register(Chips.JAMMED), 0);
        for (int i = 0; i < 7; i++) {
            CHECK.same("cycles of RESET done", chip.register(Chips.DONE), i);
            refused("cycle " + i + " of RESET", chip);
            chip.cycle();
        }
        accepted("behind RESET", chip);
        chip.pin(Chips.READY, false);
        chip.cycle();
        accepted("READY is off: the first cycle comes again", chip);
        chip.pin(Chips.NMI, false);
        chip.pin(Chips.NMI, true);
        accepted("NMI, but an instruction is next", chip);
    }

    private static void refused(String what, ClockedChip chip) {
        for (int which = 0; which < 6; which++) {
            int before = chip.register(which);
            int number = which;
            CHECK.fails(what + ", set " + which, IllegalStateException.class, () -> chip.set(number, before + 1));
            CHECK.same(what + ", register " + which, chip.register(which), before);
        }
    }

    private static void accepted(String what, ClockedChip chip) {
        int pc = chip.register(Chips.PC);
        CHECK.same(what + ", cycles done", chip.register(Chips.DONE), 0);
        chip.set(Chips.PC, pc + 1);
        CHECK.same(what + ", PC", chip.register(Chips.PC), pc + 1);
        chip.set(Chips.PC, pc);
    }

    /** Each row: what is seen of a register behind every cycle of one instruction. */
    private static void whenItIsSeen() {
        seen("A of LOAD A", Chips.at(0, 3, 80, 0), Chips.A, 0, 0, 0, 5);
        seen("P of LOAD A", Chips.at(0, 3, 81, 0), Chips.P, 32, 32, 32, 34);
        seen("PC of LOAD A far", Chips.at(0, 3, 80, 0), Chips.PC, 1, 2, 3, 3);
        seen("PC of LOAD A at once", Chips.at(0, 0, 80), Chips.PC, 1, 2);
        seen("PC of LOAD A zero and X", Chips.at(0, 2, 80), Chips.PC, 1, 2, 2, 2);
        seen("PC of JUMP", Chips.at(0, Chips.JUMP, 1, 3), Chips.PC, 1, 2, 769);
        seen("PC of CALL", Chips.at(0, Chips.CALL, 1, 3), Chips.PC, 1, 2, 2, 2, 2, 769);
        seen("S of CALL", Chips.at(0, Chips.CALL, 1, 3), Chips.S, 0, 0, 0, 255, 254, 254);
        seen("P of MORE", Chips.at(0, 81, 81), Chips.P, 32, 32, 32, 32, 32);
        seen("P of LESS", Chips.at(0, 89, 81), Chips.P, 32, 32, 32, 32, 160);
        seen("X of X + 1", Chips.at(0, 15), Chips.X, 0, 1);
        seen("PC of X + 1", Chips.at(0, 15), Chips.PC, 1, 1);
        seen("S of PUSH A", Chips.at(0, Chips.PUSH_A), Chips.S, 0, 0, 255);
        seen("S of PULL A", pulling(Chips.PULL_A), Chips.S, 0, 0, 0, 1);
        seen("A of PULL A", pulling(Chips.PULL_A), Chips.A, 0, 0, 0, 131);
        seen("P of PULL FLAGS", pulling(Chips.PULL_FLAGS), Chips.P, 32, 32, 32, 163);
        seen("PC of RETURN", pulling(Chips.RETURN), Chips.PC, 1, 1, 1, 1, 643, 644);
        seen("S of RETURN", pulling(Chips.RETURN), Chips.S, 0, 0, 0, 1, 2, 2);
        int back = Chips.RETURN_FROM_INTERRUPT;
        seen("P of RETURN FROM INTERRUPT", pulling(back), Chips.P, 32, 32, 32, 163, 163, 163);
        seen("PC of RETURN FROM INTERRUPT", pulling(back), Chips.PC, 1, 1, 1, 1, 1, 770);
        seen("S of RETURN FROM INTERRUPT", pulling(back), Chips.S, 0, 0, 0, 1, 2, 3);
        seen("PC of a branch", Chips.at(0, 176, 5), Chips.PC, 1, 2, 7);
        seen("PC of a branch not taken", Chips.at(0, 184, 5), Chips.PC, 1, 2);
        seen("PC of a branch to another page", Chips.at(0, 176, 253), Chips.PC, 1, 2, 2, 65535);
        seen("PC of BREAK", breaking(), Chips.PC, 1, 2, 2, 2, 2, 2, 772);
        seen("S of BREAK", breaking(), Chips.S, 0, 0, 255, 254, 253, 253, 253);
        seen("P of BREAK", breaking(), Chips.P, 32, 32, 32, 32, 36, 36, 36);
        ClockedChip reset = breaking();
        reset.reset();
        seen("P of RESET", reset, Chips.P, 32, 32, 32, 32, 32, 36, 36);
        ClockedChip resetS = breaking();
        resetS.reset();
        seen("S of RESET", resetS, Chips.S, 0, 0, 255, 254, 253, 253, 253);
        ClockedChip resetPc = breaking();
        resetPc.reset();
        seen("PC of RESET", resetPc, Chips.PC, 0, 0, 0, 0, 0, 0, 514);
    }

    private static ClockedChip pulling(int code) {
        ClockedChip chip = Chips.at(0, code);
        Chips.put(chip, 257, 131, 2, 3);
        return chip;
    }

    private static ClockedChip breaking() {
        ClockedChip chip = Chips.at(0, Chips.BREAK);
        Chips.put(chip, 1020, 2, 2, 4, 3);
        return chip;
    }

    private static void seen(String what, ClockedChip chip, int which, int... due) {
        chip.poke(80, 5);
        for (int i = 0; i < due.length; i++) {
            chip.cycle();
            CHECK.same(what + " behind cycle " + (i + 1), chip.register(which), due[i]);
        }
        CHECK.same(what + ": it is at its end", chip.register(Chips.DONE), 0);
    }
}
