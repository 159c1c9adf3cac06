import java.util.ArrayList;
import java.util.List;

/** Calls that are refused: when, by what exception, and that they change nothing. */
public final class EdgeRefusedTest {
    private static final Check CHECK = new Check();
    private static final int SCENES = Scenes.COUNT;

    public static void main(String[] args) {
        setInEveryCycleOfEveryCode();
        setInAnInterrupt();
        setInReset();
        setWhenJammed();
        setBeforeAnInstruction();
        alwaysRefusedCallsChangeNothing();
        refusedSetsChangeNothing();
        otherCallsAreNeverRefused();
        CHECK.finish();
    }

    private static void refused(String what, ClockedChip chip) {
        for (int which = 0; which < 6; which++) {
            int number = which;
            CHECK.fails(what + ": set " + which, IllegalStateException.class, () -> chip.set(number, 1));
        }
    }

    private static void accepted(String what, ClockedChip chip) {
        for (int which = 0; which < 6; which++) {
            int number = which;
            int before = chip.register(which);
            CHECK.fails(what + ": set " + which, null, () -> chip.set(number, before ^ 1));
            CHECK.same(what + ": register " + which, chip.register(which), before ^ 1);
            CHECK.fails(what + ": set " + which + " back", null, () -> chip.set(number, before));
        }
    }

    /** "IllegalStateException when the next cycle isn't the first one of an instruction (but ... a later one)." */
    private static void setInEveryCycleOfEveryCode() {
        for (int code = 0; code < 256; code++) {
            ClockedChip chip = Chips.at(600, code, 90, 2);
            accepted("before code " + code, chip);
            int cycle = 0;
            do {
                cycle++;
                int ended = chip.cycles(1);
                boolean atItsEnd = ended == 1;
                CHECK.same("code " + code + ", done", chip.register(Chips.DONE), doneDue(chip, atItsEnd, cycle));
                if (atItsEnd) {
                    accepted("behind code " + code, chip);
                    break;
                }
                refused("code " + code + ", cycle " + cycle, chip);
            } while (cycle < 8);
        }
    }

    private static int doneDue(ClockedChip chip, boolean atItsEnd, int cycle) {
        return atItsEnd ? 0 : chip.register(Chips.JAMMED) == 1 ? 1 : cycle;
    }

    private static void setInAnInterrupt() {
        for (int pin : new int[] {Chips.NMI, Chips.IRQ}) {
            ClockedChip chip = Chips.at(600, Chips.NOTHING);
            chip.pin(pin, true);
            accepted("wanted, but an instruction is next", chip);
            chip.cycles(2);
            for (int cycle = 0; cycle < 7; cycle++) {
                CHECK.same("done of an interrupt", chip.register(Chips.DONE), cycle);
                refused("interrupt, cycle " + cycle, chip);
                chip.cycle();
            }
            accepted("behind an interrupt", chip);
        }
    }

    private static void setInReset() {
        ClockedChip chip = new ClockedChip();
        chip.reset();
        for (int cycle = 0; cycle < 7; cycle++) {
            CHECK.same("done of RESET", chip.register(Chips.DONE), cycle);
            refused("RESET, cycle " + cycle, chip);
            chip.cycle();
        }
        accepted("behind RESET", chip);
    }

    private static void setWhenJammed() {
        ClockedChip chip = Chips.at(600, Chips.JAM);
        accepted("before the jam", chip);
        chip.cycle();
        refused("jammed", chip);
        chip.cycles(200);
        refused("still jammed", chip);
        chip.reset();
        refused("RESET from the jam", chip);
        chip.cycles(7);
        accepted("behind the jam", chip);
    }

    private static void setBeforeAnInstruction() {
        accepted("a new chip", new ClockedChip());
        ClockedChip waiting = new ClockedChip();
        waiting.pin(Chips.READY, false);
        waiting.cycles(200);
        accepted("a first cycle that waits", waiting);
        ClockedChip late = Chips.at(600, Chips.NOTHING);
        late.cycles(2);
        late.pin(Chips.NMI, true);
        late.pin(Chips.IRQ, true);
        accepted("wanted behind the end", late);
    }

    private static List<Scenes.Calls> alwaysRefused() {
        List<Scenes.Calls> calls = new ArrayList<>();
        for (int n : new int[] {-1, 201, Integer.MIN_VALUE, Integer.MAX_VALUE}) {
            calls.add(chip -> chip.cycles(n));
        }
        for (int number : new int[] {-1, 8, Integer.MIN_VALUE, Integer.MAX_VALUE}) {
            calls.add(chip -> chip.pin(number, true));
            calls.add(chip -> chip.pin(number, false));
            calls.add(chip -> chip.register(number));
            calls.add(chip -> chip.set(number, 0));
            calls.add(chip -> chip.set(number, 255));
        }
        calls.add(chip -> chip.pin(4, true));
        calls.add(chip -> chip.set(6, 0));
        calls.add(chip -> chip.set(7, 3));
        return calls;
    }

    private static void alwaysRefusedCallsChangeNothing() {
        List<Scenes.Calls> calls = alwaysRefused();
        for (int number = 0; number < SCENES; number++) {
            for (int i = 0; i < calls.size(); i++) {
                changesNothing("scene " + number + ", call " + i, number, calls.get(i));
            }
        }
    }

    private static void refusedSetsChangeNothing() {
        for (int number = Scenes.NEW + 1; number < SCENES; number++) {
            for (int which = 0; which < 6; which++) {
                for (int v : new int[] {0, 1, 255, 65535, -1}) {
                    int register = which;
                    changesNothing("scene " + number + ", set " + which, number, chip -> chip.set(register, v));
                }
            }
        }
    }

    /** Refused, and nothing that can be seen of the chip differs from one that isn't called, now or later. */
    private static void changesNothing(String what, int number, Scenes.Calls call) {
        Scenes.changeNothing(CHECK, what, number, chip -> isRefused(what, chip, call));
    }

    private static void isRefused(String what, ClockedChip chip, Scenes.Calls call) {
        boolean thrown = false;
        try {
            call.on(chip);
        } catch (IndexOutOfBoundsException | IllegalArgumentException | IllegalStateException e) {
            thrown = true;
        }
        CHECK.same(what + " is refused", thrown, true);
    }

    /** The face names no exception for these: they hold in every state and for every number. */
    private static void otherCallsAreNeverRefused() {
        int[] numbers = {0, 1, -1, 1023, 1024, 65535, 65536, Integer.MIN_VALUE, Integer.MAX_VALUE};
        for (int number = 0; number < SCENES; number++) {
            ClockedChip chip = Scenes.scene(number);
            for (int address : numbers) {
                for (int v : numbers) {
                    CHECK.fails("poke", null, () -> chip.poke(address, v));
                    CHECK.same("peek", chip.peek(address), v & 255);
                }
            }
            CHECK.fails("cycle", null, chip::cycle);
            CHECK.fails("reset", null, chip::reset);
            CHECK.fails("cycle of RESET", null, chip::cycle);
            CHECK.fails("reset again", null, chip::reset);
        }
        CHECK.same("the jam is a scene", Scenes.scene(Scenes.JAM).register(Chips.JAMMED), 1);
    }
}
