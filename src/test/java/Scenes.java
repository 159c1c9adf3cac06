/** Chips in many states, and whether a call leaves them as they were. */
final class Scenes {
    static final int NEW = 0;
    static final int JAM = 5;
    static final int COUNT = 12;

    /** A byte that no scene reads or writes. */
    static final int UNUSED = 700;

    private static final int[] CODES = {Chips.NOTHING, Chips.code(Chips.LOAD_A, 3), Chips.code(Chips.MORE, 4),
        Chips.CALL, Chips.RETURN_FROM_INTERRUPT, Chips.JAM, Chips.BREAK, Chips.NOTHING, Chips.NOTHING, Chips.NOTHING,
        Chips.code(Chips.STORE_A, 6), Chips.code(20, 0)};
    private static final int[] CYCLES = {0, 3, 5, 4, 4, 2, 5, 2, 6, 1, 4, 2};
    private static final int IRQ_INTERRUPT = 7;
    private static final int NMI_INTERRUPT = 8;
    private static final int RESET_THAT_WAITS = 9;
    private static final int BRANCH = 11;

    /** Calls on a chip, of which only what they leave behind matters. */
    interface Calls {
        void on(ClockedChip chip);
    }

    private Scenes() { }

    /** A chip in one of the states, made by the same calls each time. */
    static ClockedChip scene(int number) {
        ClockedChip chip = Chips.at(600, CODES[number], 90, 2, Chips.NOTHING);
        Chips.put(chip, 90, 250, 1);
        Chips.put(chip, 1018, 16, 3, 32, 3, 48, 3);
        int[] values = {71, 19, 37, 253, 600, number == BRANCH ? 64 : 65};
        for (int which = 0; which < 6; which++) {
            chip.set(which, values[which]);
        }
        if (number == IRQ_INTERRUPT) {
            chip.pin(Chips.IRQ, true);
        } else if (number == NMI_INTERRUPT) {
            chip.pin(Chips.NMI, true);
        } else if (number == RESET_THAT_WAITS) {
            chip.reset();
            chip.pin(Chips.SO, true);
            chip.pin(Chips.READY, false);
        }
        chip.cycles(CYCLES[number]);
        return chip;
    }

    /** Two chips alike, one of which is called: nothing that can be seen of them may differ, now or later. */
    static void changeNothing(Check check, String what, int number, Calls calls) {
        alike(check, what, number, calls, free -> { });
    }

    /** Two chips alike behind other calls: nothing that can be seen of them may differ, now or later. */
    static void alike(Check check, String what, int number, Calls calls, Calls freeCalls) {
        ClockedChip chip = behind(number, calls);
        ClockedChip free = behind(number, freeCalls);
        sameRegisters(check, what, chip, free);
        for (int pin = 0; pin < 4; pin++) {
            boolean on = pin != Chips.NMI;
            check.same(what + ", pin " + pin, chip.pin(pin, on), free.pin(pin, on));
        }
        for (int i = 0; i < 40; i++) {
            check.trace(what + ", cycle " + i + " behind it", chip, free.cycle());
        }
        sameRegisters(check, what + ", later", chip, free);
        for (int first = 0; first < 1024; first += 256) {
            sameMemory(check, what, behind(number, calls), behind(number, freeCalls), first);
        }
    }

    private static ClockedChip behind(int number, Calls calls) {
        ClockedChip chip = scene(number);
        calls.on(chip);
        return chip;
    }

    private static void sameRegisters(Check check, String what, ClockedChip chip, ClockedChip free) {
        for (int which = 0; which < 8; which++) {
            check.same(what + ", register " + which, chip.register(which), free.register(which));
        }
    }

    private static void sameMemory(Check check, String what, ClockedChip chip, ClockedChip free, int first) {
        for (int address = first; address < first + 256; address++) {
            check.same(what + ", byte " + address, chip.peek(address), free.peek(address));
        }
    }
}
