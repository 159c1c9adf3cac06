import java.util.ArrayList;
import java.util.List;

/** Calls that are refused: when, by what exception, and that they change nothing. */
public final class EdgeRefusedTest {
    private static final Check CHECK = new Check();
    private static final int NEW = 0;
    private static final int JAM = 5;
    private static final int SCENES = 12;

    /** A call that is refused in every state. */
    interface Refused {
        void on(ClockedChip chip);
    }

    public static void main(String[] args) {
        setInEveryCycleOfEveryCode();
        setInAnInterrupt();
        setInReset();
        setWhenJammed();
        setBeforeAnInstruction();
        alwaysRefusedCallsChangeNothing();
        refusedSetsChangeNothing();
        otherCallsAreNeverRefused();
        CHECK.finish();
    }

    private static void refused(String what, ClockedChip chip) {
        for (int which = 0; which < 6; which++) {
            int number = which;
            CHECK.fails(what + ": set " + which, IllegalStateException.class, () -> chip.set(number, 1));
        }
    }

    private static void accepted(String what, ClockedChip chip) {
        for (int which = 0; which < 6; which++) {
            int number = which;
            int before = chip.register(which);
            CHECK.fails(what + ": set " + which, null, () -> chip.set(number, before ^ 1));
            CHECK.same(what + ": register " + which, chip.register(which), before ^ 1);
            CHECK.fails(what + ": set " + which + " back", null, () -> chip.set(number, before));
        }
    }

    /** "IllegalStateException when the next cycle isn't the first one of an instruction (but ... a later one)." */
    private static void setInEveryCycleOfEveryCode() {
        for (int code = 0; code < 256; code++) {
            ClockedChip chip = Chips.at(600, code, 90, 2);
            accepted("before code " + code, chip);
            int cycle = 0;
            do {
                cycle++;
                int ended = chip.cycles(1);
                boolean atItsEnd = ended == 1;
                CHECK.same("code " + code + ", done", chip.register(Chips.DONE), doneDue(chip, atItsEnd, cycle));
                if (atItsEnd) {
                    accepted("behind code " + code, chip);
                    break;
                }
                refused("code " + code + ", cycle " + cycle, chip);
            } while (cycle < 8);
        }
    }

    private static int doneDue(ClockedChip chip, boolean atItsEnd, int cycle) {
        return atItsEnd ? 0 : chip.register(Chips.JAMMED) == 1 ? 1 : cycle;
    }

    private static void setInAnInterrupt() {
        for (int pin : new int[] {Chips.NMI, Chips.IRQ}) {
            ClockedChip chip = Chips.at(600, Chips.NOTHING);
            chip.pin(pin, true);
            accepted("wanted, but an instruction is next", chip);
            chip.cycles(2);
            for (int cycle = 0; cycle < 7; cycle++) {
                CHECK.same("done of an interrupt", chip.register(Chips.DONE), cycle);
                refused("interrupt, cycle " + cycle, chip);
                chip.cycle();
            }
            accepted("behind an interrupt", chip);
        }
    }

    private static void setInReset() {
        ClockedChip chip = new ClockedChip();
        chip.reset();
        for (int cycle = 0; cycle < 7; cycle++) {
            CHECK.same("done of RESET", chip.register(Chips.DONE), cycle);
            refused("RESET, cycle " + cycle, chip);
            chip.cycle();
        }
        accepted("behind RESET", chip);
    }

    private static void setWhenJammed() {
        ClockedChip chip = Chips.at(600, Chips.JAM);
        accepted("before the jam", chip);
        chip.cycle();
        refused("jammed", chip);
        chip.cycles(200);
        refused("still jammed", chip);
        chip.reset();
        refused("RESET from the jam", chip);
        chip.cycles(7);
        accepted("behind the jam", chip);
    }

    private static void setBeforeAnInstruction() {
        accepted("a new chip", new ClockedChip());
        ClockedChip waiting = new ClockedChip();
        waiting.pin(Chips.READY, false);
        waiting.cycles(200);
        accepted("a first cycle that waits", waiting);
        ClockedChip late = Chips.at(600, Chips.NOTHING);
        late.cycles(2);
        late.pin(Chips.NMI, true);
        late.pin(Chips.IRQ, true);
        accepted("wanted behind the end", late);
    }

    /** A chip in one of many states, made by the same calls each time. */
    private static ClockedChip scene(int number) {
        int[] codes = {Chips.NOTHING, Chips.code(Chips.LOAD_A, 3), Chips.code(Chips.MORE, 4), Chips.CALL,
            Chips.RETURN_FROM_INTERRUPT, Chips.JAM, Chips.BREAK, Chips.NOTHING, Chips.NOTHING, Chips.NOTHING,
            Chips.code(Chips.STORE_A, 6), Chips.code(20, 0)};
        int[] cycles = {0, 3, 5, 4, 4, 2, 5, 2, 6, 1, 4, 2};
        ClockedChip chip = Chips.at(600, codes[number], 90, 2, Chips.NOTHING);
        Chips.put(chip, 90, 250, 1);
        Chips.put(chip, 1018, 16, 3, 32, 3, 48, 3);
        int[] values = {71, 19, 37, 253, 600, number == 11 ? 64 : 65};
        for (int which = 0; which < 6; which++) {
            chip.set(which, values[which]);
        }
        if (number == 7) {
            chip.pin(Chips.IRQ, true);
        } else if (number == 8) {
            chip.pin(Chips.NMI, true);
        } else if (number == 9) {
            chip.reset();
            chip.pin(Chips.SO, true);
            chip.pin(Chips.READY, false);
        }
        chip.cycles(cycles[number]);
        return chip;
    }

    private static List<Refused> alwaysRefused() {
        List<Refused> calls = new ArrayList<>();
        for (int n : new int[] {-1, 201, Integer.MIN_VALUE, Integer.MAX_VALUE}) {
            calls.add(chip -> chip.cycles(n));
        }
        for (int number : new int[] {-1, 8, Integer.MIN_VALUE, Integer.MAX_VALUE}) {
            calls.add(chip -> chip.pin(number, true));
            calls.add(chip -> chip.pin(number, false));
            calls.add(chip -> chip.register(number));
            calls.add(chip -> chip.set(number, 0));
            calls.add(chip -> chip.set(number, 255));
        }
        calls.add(chip -> chip.pin(4, true));
        calls.add(chip -> chip.set(6, 0));
        calls.add(chip -> chip.set(7, 3));
        return calls;
    }

    private static void alwaysRefusedCallsChangeNothing() {
        List<Refused> calls = alwaysRefused();
        for (int number = 0; number < SCENES; number++) {
            for (int i = 0; i < calls.size(); i++) {
                changesNothing("scene " + number + ", call " + i, number, calls.get(i));
            }
        }
    }

    private static void refusedSetsChangeNothing() {
        for (int number = NEW + 1; number < SCENES; number++) {
            for (int which = 0; which < 6; which++) {
                for (int v : new int[] {0, 1, 255, 65535, -1}) {
                    int register = which;
                    changesNothing("scene " + number + ", set " + which, number, chip -> chip.set(register, v));
                }
            }
        }
    }

    /** Two chips alike, one of which is called: nothing that can be seen of them may differ, now or later. */
    private static void changesNothing(String what, int number, Refused call) {
        ClockedChip chip = called(what, number, call);
        ClockedChip free = scene(number);
        alike(what, chip, free);
        for (int pin = 0; pin < 4; pin++) {
            boolean on = pin != Chips.NMI;
            CHECK.same(what + ", pin " + pin, chip.pin(pin, on), free.pin(pin, on));
        }
        for (int i = 0; i < 40; i++) {
            CHECK.trace(what + ", cycle " + i + " behind it", chip, free.cycle());
        }
        alike(what + ", later", chip, free);
        for (int first = 0; first < 1024; first += 256) {
            sameMemory(what, called(what, number, call), scene(number), first);
        }
    }

    private static ClockedChip called(String what, int number, Refused call) {
        ClockedChip chip = scene(number);
        boolean thrown = false;
        try {
            call.on(chip);
        } catch (IndexOutOfBoundsException | IllegalArgumentException | IllegalStateException e) {
            thrown = true;
        }
        CHECK.same(what + " is refused", thrown, true);
        return chip;
    }

    private static void alike(String what, ClockedChip chip, ClockedChip free) {
        for (int which = 0; which < 8; which++) {
            CHECK.same(what + ", register " + which, chip.register(which), free.register(which));
        }
    }

    private static void sameMemory(String what, ClockedChip chip, ClockedChip free, int first) {
        for (int address = first; address < first + 256; address++) {
            CHECK.same(what + ", byte " + address, chip.peek(address), free.peek(address));
        }
    }

    /** The face names no exception for these: they hold in every state and for every number. */
    private static void otherCallsAreNeverRefused() {
        int[] numbers = {0, 1, -1, 1023, 1024, 65535, 65536, Integer.MIN_VALUE, Integer.MAX_VALUE};
        for (int number = 0; number < SCENES; number++) {
            ClockedChip chip = scene(number);
            for (int address : numbers) {
                for (int v : numbers) {
                    CHECK.fails("poke", null, () -> chip.poke(address, v));
                    CHECK.same("peek", chip.peek(address), v & 255);
                }
            }
            CHECK.fails("cycle", null, chip::cycle);
            CHECK.fails("reset", null, chip::reset);
            CHECK.fails("cycle of RESET", null, chip::cycle);
            CHECK.fails("reset again", null, chip::reset);
        }
        CHECK.same("the jam is a scene", scene(JAM).register(Chips.JAMMED), 1);
    }
}
