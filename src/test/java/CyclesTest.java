/** Promise 5: cycles. */
public final class CyclesTest {
    public static void main(String[] args) {
        Check check = new Check();
        ClockedChip chip = Chips.at(0, Chips.NOTHING, Chips.NOTHING, Chips.CALL, 0, 2);
        Chips.put(chip, 512, Chips.RETURN);
        check.same("none", chip.cycles(0), 0);
        check.registers("none", chip, 0, 0, 0, 0, 0, 32, 0, 0);
        check.same("one of two", chip.cycles(1), 0);
        check.same("two of two", chip.cycles(1), 1);
        check.same("the next and some of the CALL", chip.cycles(7), 1);
        check.same("done of the CALL", chip.register(Chips.DONE), 5);
        check.same("CALL and RETURN", chip.cycles(7), 2);
        check.same("PC", chip.register(Chips.PC), 5);

        ClockedChip most = new ClockedChip();
        check.same("200", most.cycles(200), 100);
        check.same("PC", most.register(Chips.PC), 200);
        check.fails("201", IllegalArgumentException.class, () -> most.cycles(201));
        check.fails("-1", IllegalArgumentException.class, () -> most.cycles(-1));
        check.fails("the most", IllegalArgumentException.class, () -> most.cycles(Integer.MAX_VALUE));
        check.fails("the least", IllegalArgumentException.class, () -> most.cycles(Integer.MIN_VALUE));
        check.same("PC as before", most.register(Chips.PC), 200);

        ClockedChip interrupted = Chips.at(0, Chips.NOTHING);
        Chips.put(interrupted, 1022, 0, 2);
        Chips.put(interrupted, 512, Chips.RETURN_FROM_INTERRUPT);
        interrupted.pin(Chips.IRQ, true);
        check.same("instruction and interrupt", interrupted.cycles(9), 2);
        check.same("RETURN FROM INTERRUPT", interrupted.cycles(6), 1);
        check.same("the interrupt again", interrupted.cycles(7), 1);

        ClockedChip broken = Chips.at(0, Chips.BREAK);
        check.same("BREAK, before its end", broken.cycles(6), 0);
        check.same("BREAK counts once", broken.cycles(1), 1);

        ClockedChip reset = Chips.at(0, Chips.code(Chips.LOAD_A, 3));
        reset.cycles(3);
        reset.reset();
        check.same("RESET", reset.cycles(6), 0);
        check.same("RESET at its end", reset.cycles(1), 1);

        ClockedChip jammed = Chips.at(0, Chips.NOTHING, Chips.JAM);
        check.same("jam", jammed.cycles(200), 1);
        check.same("jammed", jammed.cycles(200), 0);

        ClockedChip waiting = Chips.at(0, Chips.NOTHING);
        waiting.pin(Chips.READY, false);
        check.same("waiting", waiting.cycles(200), 0);
        check.registers("waiting", waiting, 0, 0, 0, 0, 0, 32, 0, 0);
        asManyCallsOfCycle(check);
        check.finish();
    }

    /** "So many cycles": cycles(n) leaves behind what n calls of cycle() do. */
    private static void asManyCallsOfCycle(Check check) {
        for (int number = 0; number < Scenes.COUNT; number++) {
            for (int n = 0; n <= 24; n++) {
                int many = n;
                Scenes.alike(check, "scene " + number + ", cycles of " + n, number, chip -> chip.cycles(many), free -> {
                    for (int i = 0; i < many; i++) {
                        free.cycle();
                    }
                });
            }
        }
    }
}
