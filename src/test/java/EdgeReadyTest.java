/** "READY: while it is off, a cycle that reads is only that reading: nothing else comes of it, and it comes again." */
public final class EdgeReadyTest {
    private static final Check CHECK = new Check();
    private static final int CODES = 256;
    private static final int MOST_CYCLES_OF_ONE = 7;

    public static void main(String[] args) {
        for (int code = 0; code < CODES; code++) {
            for (int cycle = 0; cycle <= MOST_CYCLES_OF_ONE; cycle++) {
                waitsInACode(code, cycle);
            }
        }
        for (int cycle = 0; cycle <= MOST_CYCLES_OF_ONE; cycle++) {
            waitsInAnInterrupt(cycle);
            waitsInReset(cycle);
            waitsInABranchToAnotherPage(cycle);
        }
        offForAWholeRun();
        writesGoOnWhileItIsOff();
        onlyTheLastReadingCounts();
        aPullThatWaits();
        theEndWaits();
        waitingCyclesEndNothing();
        theOtherPinsWhileItIsOff();
        pokeWhileItIsOff();
        setWhileItIsOff();
        resetWhileItIsOff();
        offAndOnBetweenTwoCycles();
        CHECK.finish();
    }

    private static int read(int address, int b) {
        return Chips.read(address, b);
    }

    private static int write(int address, int b) {
        return Chips.write(address, b);
    }

    /** Every register is another one, C is 1, and each mode that has an index has another page ahead. */
    private static ClockedChip chip(int code) {
        ClockedChip chip = Chips.at(600, code, 240, 2, Chips.NOTHING);
        Chips.put(chip, 240, 250, 1, 230);
        Chips.put(chip, 1018, 20, 3, 40, 3, 60, 3);
        for (int s = 0; s < 8; s++) {
            chip.poke(256 + (252 + s) % 256, 65 + s);
        }
        int[] values = {71, 19, 37, 253, 600, 65};
        for (int which = 0; which < 6; which++) {
            chip.set(which, values[which]);
        }
        return chip;
    }

    private static int[] registers(ClockedChip chip) {
        int[] all = new int[8];
        for (int which = 0; which < 8; which++) {
            all[which] = chip.register(which);
        }
        return all;
    }

    /** Runs two chips alike, one of which READY makes wait three times before the given cycle, if that reads. */
    private static void waitsAlike(String what, ClockedChip chip, ClockedChip free, int cycle) {
        chip.cycles(cycle);
        free.cycles(cycle);
        int due = free.cycle();
        chip.pin(Chips.READY, false);
        if ((due & 256) != 0) {
            CHECK.trace(what + " writes", chip, due);
        } else {
            int[] before = registers(chip);
            CHECK.trace(what + " waits", chip, due, due);
            CHECK.same(what + " ends nothing", chip.cycles(1), 0);
            CHECK.registers(what + " waits", chip, before);
            chip.pin(Chips.READY, true);
            CHECK.trace(what + " comes again", chip, due);
        }
        CHECK.registers(what + " behind it", chip, registers(free));
        chip.pin(Chips.READY, true);
        for (int i = 0; i < 12; i++) {
            CHECK.trace(what + " goes on, " + i, chip, free.cycle());
        }
        CHECK.registers(what + " at last", chip, registers(free));
    }

    private static void waitsInACode(int code, int cycle) {
        waitsAlike("code " + code + " at " + cycle, chip(code), chip(code), cycle);
    }

    private static ClockedChip branching() {
        ClockedChip chip = chip(Chips.code(21, 0));
        chip.poke(601, 128);
        return chip;
    }

    private static void waitsInABranchToAnotherPage(int cycle) {
        waitsAlike("branch to another page at " + cycle, branching(), branching(), cycle);
    }

    private static ClockedChip interrupted() {
        ClockedChip chip = chip(Chips.NOTHING);
        chip.pin(Chips.IRQ, true);
        chip.cycles(2);
        return chip;
    }

    private static void waitsInAnInterrupt(int cycle) {
        waitsAlike("interrupt at " + cycle, interrupted(), interrupted(), cycle);
    }

    private static ClockedChip beingReset() {
        ClockedChip chip = chip(Chips.NOTHING);
        chip.reset();
        return chip;
    }

    private static void waitsInReset(int cycle) {
        waitsAlike("RESET at " + cycle, beingReset(), beingReset(), cycle);
    }

    /** While it is off a program comes no further than to its next reading. */
    private static void offForAWholeRun() {
        ClockedChip chip = chip(Chips.NOTHING);
        chip.pin(Chips.READY, false);
        for (int i = 0; i < 20; i++) {
            CHECK.trace("off, " + i, chip, read(600, 7));
        }
        CHECK.same("200 cycles", chip.cycles(200), 0);
        CHECK.registers("off", chip, 71, 19, 37, 253, 600, 97, 0, 0);
    }

    /** Only a cycle that reads waits: all writes in a row go on, then the next reading waits. */
    private static void writesGoOnWhileItIsOff() {
        ClockedChip store = Chips.at(600, Chips.code(Chips.STORE_A, 3), 90, 0, Chips.NOTHING);
        store.set(Chips.A, 5);
        store.cycles(3);
        store.pin(Chips.READY, false);
        CHECK.same("a store ends", store.cycles(200), 1);
        CHECK.same("a store writes", store.peek(90), 5);
        CHECK.registers("a store", store, 5, 0, 0, 0, 603, 32, 0, 0);

        ClockedChip change = Chips.at(600, Chips.code(Chips.LESS, 1), 90, Chips.NOTHING);
        change.cycles(2);
        change.pin(Chips.READY, false);
        CHECK.trace("a change's reading waits", change, read(90, 0), read(90, 0));
        change.pin(Chips.READY, true);
        CHECK.trace("a change reads", change, read(90, 0));
        change.pin(Chips.READY, false);
        CHECK.trace("a change writes twice", change, write(90, 0), write(90, 255), read(602, 7), read(602, 7));
        CHECK.registers("a change", change, 0, 0, 0, 0, 602, 160, 0, 0);

        ClockedChip call = Chips.at(600, Chips.CALL, 1, 3);
        call.cycles(3);
        call.pin(Chips.READY, false);
        CHECK.trace("CALL pushes twice", call, write(256, 2), write(511, 90), read(602, 3), read(602, 3));
        CHECK.registers("CALL", call, 0, 0, 0, 254, 602, 32, 0, 5);

        ClockedChip broken = Chips.at(600, Chips.BREAK, 1);
        broken.poke(1022, 8);
        broken.cycles(2);
        broken.pin(Chips.READY, false);
        CHECK.trace("BREAK pushes three times", broken, write(256, 2), write(511, 90), write(510, 48),
            read(65534, 8), read(65534, 8));
        CHECK.registers("BREAK", broken, 0, 0, 0, 253, 602, 36, 0, 5);
    }

    private static void onlyTheLastReadingCounts() {
        ClockedChip chip = Chips.at(600, Chips.code(Chips.LOAD_A, 1), 90);
        chip.poke(90, 3);
        chip.cycles(2);
        chip.pin(Chips.READY, false);
        CHECK.trace("it reads", chip, read(90, 3));
        chip.poke(90, 4);
        CHECK.trace("it reads another byte", chip, read(90, 4));
        chip.poke(90, 200);
        chip.pin(Chips.READY, true);
        CHECK.trace("it reads at last", chip, read(90, 200));
        CHECK.registers("the last byte", chip, 200, 0, 0, 0, 602, 160, 0, 0);
    }

    /** "to PULL is to make S 1 more, and to read at 256 + S": S waits too, and so goes no further each time. */
    private static void aPullThatWaits() {
        ClockedChip chip = Chips.at(600, Chips.RETURN_FROM_INTERRUPT);
        chip.set(Chips.S, 254);
        chip.poke(511, 131);
        Chips.put(chip, 256, 17, 3);
        chip.cycles(3);
        int[][] rows = {{511, 131, 254, 32, 255, 163}, {256, 17, 255, 163, 0, 163}, {257, 3, 0, 163, 1, 163}};
        for (int[] row : rows) {
            chip.pin(Chips.READY, false);
            CHECK.trace("a pull waits", chip, read(row[0], row[1]), read(row[0], row[1]), read(row[0], row[1]));
            CHECK.same("S waits", chip.register(Chips.S), row[2]);
            CHECK.same("flags wait", chip.register(Chips.P), row[3]);
            CHECK.same("PC waits", chip.register(Chips.PC), 601);
            chip.pin(Chips.READY, true);
            CHECK.trace("a pull comes", chip, read(row[0], row[1]));
            CHECK.same("S comes", chip.register(Chips.S), row[4]);
            CHECK.same("flags come", chip.register(Chips.P), row[5]);
        }
        CHECK.same("PC comes", chip.register(Chips.PC), 785);
    }

    /** An interrupt that is wanted while the last cycle waits: it counts at the end, which has not come yet. */
    private static void theEndWaits() {
        ClockedChip gone = Chips.at(600, Chips.NOTHING, Chips.NOTHING, Chips.NOTHING);
        gone.cycle();
        gone.pin(Chips.READY, false);
        gone.pin(Chips.IRQ, true);
        CHECK.trace("the last cycle waits", gone, read(601, 7), read(601, 7));
        CHECK.same("one cycle is done", gone.register(Chips.DONE), 1);
        gone.pin(Chips.IRQ, false);
        gone.pin(Chips.READY, true);
        CHECK.trace("no interrupt", gone, read(601, 7), read(601, 7), read(602, 7), read(602, 7));
        CHECK.same("PC", gone.register(Chips.PC), 603);

        ClockedChip come = Chips.at(600, Chips.NOTHING, Chips.NOTHING);
        come.cycle();
        come.pin(Chips.READY, false);
        come.cycles(5);
        come.pin(Chips.IRQ, true);
        come.pin(Chips.READY, true);
        CHECK.trace("an interrupt", come, read(601, 7), read(601, 7), read(601, 7), write(256, 2));
    }

    private static void waitingCyclesEndNothing() {
        ClockedChip chip = Chips.at(600, Chips.NOTHING, Chips.NOTHING);
        chip.cycle();
        chip.pin(Chips.READY, false);
        CHECK.same("at the last cycle", chip.cycles(200), 0);
        chip.pin(Chips.READY, true);
        CHECK.same("the last cycle", chip.cycles(1), 1);
        chip.pin(Chips.READY, false);
        CHECK.same("at the first cycle", chip.cycles(200), 0);
        chip.pin(Chips.READY, true);
        CHECK.same("both cycles", chip.cycles(2), 1);
    }

    /** The pins turn at once: NMI is wanted and V is 1, though no cycle comes through. */
    private static void theOtherPinsWhileItIsOff() {
        ClockedChip chip = Chips.at(600, Chips.NOTHING, Chips.NOTHING);
        chip.pin(Chips.READY, false);
        chip.pin(Chips.SO, true);
        CHECK.same("V", chip.register(Chips.P), 96);
        chip.pin(Chips.NMI, true);
        chip.pin(Chips.NMI, false);
        CHECK.trace("it waits", chip, read(600, 7));
        chip.pin(Chips.READY, true);
        CHECK.trace("NMI", chip, read(600, 7), read(601, 7), read(601, 7), read(601, 7), write(256, 2),
            write(511, 89), write(510, 96), read(65530, 0), read(65531, 0));
    }

    private static void pokeWhileItIsOff() {
        ClockedChip chip = Chips.at(600, Chips.JAM);
        chip.pin(Chips.READY, false);
        CHECK.trace("a code that would jam", chip, read(600, 255));
        CHECK.same("not jammed", chip.register(Chips.JAMMED), 0);
        CHECK.same("poke", chip.poke(600, Chips.NOTHING), 255);
        chip.pin(Chips.READY, true);
        CHECK.trace("another code", chip, read(600, 7), read(601, 0));
        CHECK.same("it is at its end", chip.register(Chips.DONE), 0);
    }

    /** A first cycle that waits is still the first one of an instruction. */
    private static void setWhileItIsOff() {
        ClockedChip chip = Chips.at(600, Chips.NOTHING);
        chip.poke(700, 9);
        chip.pin(Chips.READY, false);
        CHECK.trace("it waits", chip, read(600, 7));
        chip.set(Chips.PC, 700);
        CHECK.trace("it waits elsewhere", chip, read(700, 9));
        chip.set(Chips.PC, 600);
        chip.pin(Chips.READY, true);
        chip.cycle();
        chip.pin(Chips.READY, false);
        chip.cycle();
        CHECK.fails("a second cycle that waits", IllegalStateException.class, () -> chip.set(Chips.PC, 700));
    }

    private static void resetWhileItIsOff() {
        ClockedChip chip = chip(Chips.JAM);
        chip.cycles(3);
        chip.pin(Chips.READY, false);
        CHECK.trace("the jam", chip, read(65535, 3));
        chip.reset();
        CHECK.trace("RESET waits", chip, read(601, 240), read(601, 240), read(601, 240));
        CHECK.registers("RESET waits", chip, 71, 19, 37, 253, 601, 97, 0, 0);
        chip.pin(Chips.READY, true);
        CHECK.same("RESET", chip.cycles(7), 1);
        CHECK.registers("RESET", chip, 71, 19, 37, 250, 808, 101, 0, 0);
    }

    /** It counts in a cycle, not between two of them. */
    private static void offAndOnBetweenTwoCycles() {
        ClockedChip chip = Chips.at(600, Chips.NOTHING, Chips.NOTHING);
        chip.pin(Chips.READY, false);
        chip.pin(Chips.READY, true);
        CHECK.trace("it goes on", chip, read(600, 7), read(601, 7));
        chip.pin(Chips.READY, true);
        CHECK.trace("it was on", chip, read(601, 7), read(602, 0));
    }
}
