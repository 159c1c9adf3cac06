/** Every code: the last ones that do something, the first ones that jam, and how many cycles each takes. */
public final class EdgeCodesTest {
    private static final Check CHECK = new Check();
    private static final int JAMS = 0;

    /** Cycles by mode 0 to 6 on one page, for each operation 0 to 31. */
    private static final int[][] WITH_OPERAND = {
        {2, 3, 4, 4, 4, 6, 5}, // 0 LOAD A
        {0, 3, 4, 4, 5, 6, 6}, // 1 STORE A has no mode 0
        {2, 3, 4, 4, 4, 6, 5},
        {2, 3, 4, 4, 4, 6, 5},
        {2, 3, 4, 4, 4, 6, 5},
        {2, 3, 4, 4, 4, 6, 5},
        {2, 3, 4, 4, 4, 6, 5},
        {2, 3, 4, 4, 4, 6, 5},
        {2, 3, 4, 4, 4, 6, 5},
        {2, 3, 4, 4, 4, 6, 5}, // 9 LOAD Y, the last one that reads
        {0, 5, 6, 6, 7, 0, 0}, // 10 to 13 have the modes 1 to 4 alone
        {0, 5, 6, 6, 7, 0, 0},
        {0, 5, 6, 6, 7, 0, 0},
        {0, 5, 6, 6, 7, 0, 0},
        {0, 0, 0, 0, 0, 0, 0}, // 14 and 15 have no mode of these
        {0, 0, 0, 0, 0, 0, 0},
        {3, 0, 0, 0, 0, 0, 0}, // 16 if N is 0: all flags are 0 here
        {2, 0, 0, 0, 0, 0, 0},
        {3, 0, 0, 0, 0, 0, 0},
        {2, 0, 0, 0, 0, 0, 0},
        {3, 0, 0, 0, 0, 0, 0},
        {2, 0, 0, 0, 0, 0, 0},
        {3, 0, 0, 0, 0, 0, 0},
        {2, 0, 0, 0, 0, 0, 0}, // 23 if Z is 1
        {0, 0, 0, 3, 0, 0, 0}, // 24 JUMP
        {0, 0, 0, 6, 0, 0, 0}, // 25 CALL
        {0, 0, 0, 0, 0, 0, 0},
        {0, 0, 0, 0, 0, 0, 0},
        {0, 0, 0, 0, 0, 0, 0},
        {0, 0, 0, 0, 0, 0, 0},
        {0, 0, 0, 0, 0, 0, 0},
        {0, 0, 0, 0, 0, 0, 0},
    };
    /** Cycles of mode 7, for each operation 0 to 31. */
    private static final int[] WITHOUT_OPERAND = {2, 2, 2, 2, 2, 2, 2, 2, 2, 2, 2, 2, 2, 2, 2, 2,
        3, 4, 3, 4, 6, 6, 7, 0, 0, 0, 0, 0, 0, 0, 0, 0};

    public static void main(String[] args) {
        for (int code = 0; code < 256; code++) {
            int mode = code % 8;
            int due = mode == 7 ? WITHOUT_OPERAND[code / 8] : WITH_OPERAND[code / 8][mode];
            ends(code, due);
            // Another page costs one cycle more where a byte is read, and none where it's stored or changed.
            boolean more = (mode == 4 || mode == 6) && code / 8 < 10 && code / 8 != Chips.STORE_A;
            endsOnAnotherPage(code, more ? due + 1 : due);
        }
        branchesOfEveryFlag();
        aJamStays();
        CHECK.finish();
    }

    private static void ends(int code, int cycles) {
        ClockedChip chip = Chips.at(600, code, 20, 1);
        lasts("code " + code, chip, cycles);
    }

    private static void endsOnAnotherPage(int code, int cycles) {
        ClockedChip chip = Chips.at(600, code, 20, 1);
        Chips.put(chip, 20, 1, 2);
        Chips.put(chip, 19, 3);
        chip.set(Chips.X, 255);
        chip.set(Chips.Y, 255);
        lasts("code " + code + " on another page", chip, cycles);
    }

    private static void lasts(String what, ClockedChip chip, int cycles) {
        CHECK.same(what + ", before the first", chip.register(Chips.DONE), 0);
        if (cycles == JAMS) {
            CHECK.same(what + " has no end", chip.cycles(200), 0);
            CHECK.same(what + " jams", chip.register(Chips.JAMMED), 1);
            return;
        }
        for (int i = 1; i < cycles; i++) {
            CHECK.same(what + ", cycle " + i, chip.cycles(1), 0);
            CHECK.same(what + ", done behind " + i, chip.register(Chips.DONE), i);
            CHECK.same(what + " does not jam", chip.register(Chips.JAMMED), 0);
        }
        CHECK.same(what + ", the last cycle", chip.cycles(1), 1);
        CHECK.same(what + ", done at its end", chip.register(Chips.DONE), 0);
        CHECK.same(what + " has not jammed", chip.register(Chips.JAMMED), 0);
    }

    /** "if N is 0, 1; V 0, 1; C 0, 1; Z 0, 1": with every P. */
    private static void branchesOfEveryFlag() {
        int[] flags = {128, 128, 64, 64, 1, 1, 2, 2};
        for (int i = 0; i < 8; i++) {
            for (int p = 0; p < 256; p++) {
                ClockedChip chip = Chips.at(600, Chips.code(16 + i, 0), 9);
                chip.set(Chips.P, p);
                boolean taken = p / flags[i] % 2 == i % 2;
                CHECK.same("branch " + i + " with P " + p, chip.cycles(2), taken ? 0 : 1);
                CHECK.same("branch " + i + " taken", chip.cycles(1), taken ? 1 : 0);
                CHECK.same("PC of branch " + i, chip.register(Chips.PC), taken ? 611 : 603);
                CHECK.same("P of branch " + i, chip.register(Chips.P), (p & 207) + 32);
            }
        }
    }

    /** "All others JAM ... from then on every cycle is idle 65535"; 7 "1 when it is jammed". */
    private static void aJamStays() {
        ClockedChip chip = Chips.at(600, Chips.JAM);
        chip.poke(1023, 44);
        chip.cycle();
        for (int i = 0; i < 100; i++) {
            CHECK.trace("jammed", chip, Chips.read(65535, 44));
            CHECK.same("jammed", chip.register(Chips.JAMMED), 1);
            CHECK.same("cycles done", chip.register(Chips.DONE), 1);
            CHECK.same("PC", chip.register(Chips.PC), 601);
        }
    }
}
