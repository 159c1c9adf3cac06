/** What no sentence of the document names is left as it is: by every code, and by every call. */
public final class LeftAloneTest {
    private static final Check CHECK = new Check();
    private static final int MOST_CYCLES_OF_ONE = 7;
    private static final int PART = 128;

    /** What an operation with an operand may change: capital letters are registers, small ones flags. */
    private static final String[] WITH_OPERAND = {"Anz", "", "Anvzc", "Anvzc", "Anz", "Anz", "Anz", "nzc", "Xnz",
        "Ynz", "nz", "nz", "nzc", "nzc"};
    /** The same for mode 7. */
    private static final String[] WITHOUT_OPERAND = {"", "Xnz", "Xnz", "Ynz", "Ynz", "Xnz", "Anz", "Ynz", "Anz", "c",
        "c", "i", "i", "d", "d", "S", "S", "SAnz", "S", "Snvdizc", "S", "Snvdizc", "Si"};
    private static final String REGISTERS = "AXYS";
    private static final String FLAGS = "czid**vn";

    public static void main(String[] args) {
        for (int code = 0; code < 256; code++) {
            for (int p : new int[] {0, 207, 65, 142, 8, 199}) {
                registersOfACode(code, p);
            }
            for (int first = 0; first < 1024; first += PART) {
                bytesOfACode(code, first);
            }
        }
        registersOfAnInterrupt();
        for (int number = 0; number < Scenes.COUNT; number++) {
            callsThatOnlyAnswer(number);
            pokeChangesOneByte(number);
            pinsThatAreAsTheyWere(number);
            pinsThatTurnForNothing(number);
            soChangesV(number);
        }
        setChangesOneRegister();
        CHECK.finish();
    }

    private static String mayChange(int code) {
        int operation = code / 8;
        if (code % 8 == 7) {
            return operation < WITHOUT_OPERAND.length ? WITHOUT_OPERAND[operation] : "";
        }
        if (code == Chips.CALL) {
            return "S";
        }
        boolean jams = code == Chips.code(Chips.STORE_A, 0) || operation >= Chips.MORE && (code % 8 == 0 || code % 8 > 4);
        return operation < WITH_OPERAND.length && !jams ? WITH_OPERAND[operation] : "";
    }

    private static ClockedChip chip(int code, int p) {
        ClockedChip chip = Chips.at(600, code, 90, 2, Chips.NOTHING);
        Chips.put(chip, 90, 250, 1, 77);
        Chips.put(chip, 1018, 20, 3, 40, 3, 60, 3);
        int[] values = {200, 19, 37, 101, 600, p};
        for (int which = 0; which < 6; which++) {
            chip.set(which, values[which]);
        }
        return chip;
    }

    private static boolean isAtItsEnd(ClockedChip chip) {
        return chip.register(Chips.DONE) == 0 || chip.register(Chips.JAMMED) == 1;
    }

    private static void registersOfACode(int code, int p) {
        ClockedChip chip = chip(code, p);
        int[] before = registers(chip);
        int cycles = 0;
        do {
            chip.cycle();
            cycles++;
        } while (!isAtItsEnd(chip) && cycles < MOST_CYCLES_OF_ONE);
        onlyTheseChanged("code " + code + " with P " + p, chip, before, mayChange(code));
    }

    private static int[] registers(ClockedChip chip) {
        int[] all = new int[6];
        for (int which = 0; which < 6; which++) {
            all[which] = chip.register(which);
        }
        return all;
    }

    private static void onlyTheseChanged(String what, ClockedChip chip, int[] before, String names) {
        for (int which = 0; which < REGISTERS.length(); which++) {
            char name = REGISTERS.charAt(which);
            if (names.indexOf(name) < 0) {
                CHECK.same(what + " leaves " + name, chip.register(which), before[which]);
            }
        }
        for (int bit = 0; bit < FLAGS.length(); bit++) {
            char name = FLAGS.charAt(bit);
            if (names.indexOf(name) < 0) {
                int flag = 1 << bit;
                CHECK.same(what + " leaves " + name, chip.register(Chips.P) & flag, before[Chips.P] & flag);
            }
        }
    }

    /** One part of the memory at a time, for all of it would be too many calls on one chip. */
    private static void bytesOfACode(int code, int first) {
        ClockedChip chip = new ClockedChip();
        int[] due = new int[PART];
        for (int i = 0; i < PART; i++) {
            chip.poke(first + i, i * 3 + 130);
        }
        Chips.put(chip, 600, code, 90, 2);
        chip.set(Chips.PC, 600);
        chip.set(Chips.A, 1);
        chip.set(Chips.X, 3);
        chip.set(Chips.Y, 5);
        for (int i = 0; i < PART; i++) {
            due[i] = chip.peek(first + i);
        }
        for (int cycle = 0; cycle == 0 || !isAtItsEnd(chip) && cycle < MOST_CYCLES_OF_ONE; cycle++) {
            int answer = chip.cycle();
            int place = answer / 512 % 1024 - first;
            if ((answer & 256) != 0 && place >= 0 && place < PART) {
                due[place] = answer & 255;
            }
        }
        for (int i = 0; i < PART; i++) {
            CHECK.same("code " + code + ", byte " + (first + i), chip.peek(first + i), due[i]);
        }
    }

    private static void registersOfAnInterrupt() {
        for (int p : new int[] {0, 203, 65, 138}) {
            for (int pin : new int[] {Chips.NMI, Chips.IRQ}) {
                ClockedChip chip = chip(Chips.NOTHING, p);
                int[] before = registers(chip);
                chip.pin(pin, true);
                chip.cycles(2 + 7);
                onlyTheseChanged("interrupt " + pin + " with P " + p, chip, before, "Si");
            }
            ClockedChip reset = chip(Chips.NOTHING, p);
            int[] before = registers(reset);
            reset.reset();
            reset.cycles(7);
            onlyTheseChanged("RESET with P " + p, reset, before, "Si");
        }
    }

    private static void callsThatOnlyAnswer(int number) {
        String what = "scene " + number;
        for (int which = 0; which < 8; which++) {
            int register = which;
            Scenes.changeNothing(CHECK, what + ", register " + which, number, chip -> chip.register(register));
        }
        for (int address : new int[] {0, 90, 600, 601, 1023, 65535, -1}) {
            Scenes.changeNothing(CHECK, what + ", peek " + address, number, chip -> chip.peek(address));
        }
        Scenes.changeNothing(CHECK, what + ", cycles of 0", number, chip -> chip.cycles(0));
    }

    private static void pokeChangesOneByte(int number) {
        String what = "scene " + number + ", poke";
        for (int v : new int[] {1, 0, 255, 256}) {
            Scenes.changeNothing(CHECK, what + " and back", number, chip -> {
                int before = chip.poke(Scenes.UNUSED, v);
                chip.poke(Scenes.UNUSED, before);
            });
        }
        for (int address : new int[] {90, 600, 1023}) {
            Scenes.changeNothing(CHECK, what + " of what is there", number,
                chip -> chip.poke(address, chip.peek(address)));
        }
    }

    private static void pinsThatAreAsTheyWere(int number) {
        for (int pin = 0; pin < 4; pin++) {
            boolean on = isOn(number, pin);
            int turned = pin;
            Scenes.changeNothing(CHECK, "scene " + number + ", pin " + pin + " as it was", number,
                chip -> chip.pin(turned, on));
        }
    }

    private static boolean isOn(int number, int pin) {
        return Scenes.scene(number).pin(pin, true);
    }

    /** IRQ and READY count in a cycle alone; whichever pin turns, only SO that goes on is seen at once. */
    private static void pinsThatTurnForNothing(int number) {
        String what = "scene " + number;
        for (int pin : new int[] {Chips.IRQ, Chips.READY}) {
            boolean on = isOn(number, pin);
            Scenes.changeNothing(CHECK, what + ", pin " + pin + " there and back", number, chip -> {
                chip.pin(pin, !on);
                chip.pin(pin, on);
            });
        }
        for (int pin = 0; pin < 4; pin++) {
            ClockedChip chip = Scenes.scene(number);
            int[] before = registers(chip);
            chip.pin(pin, false);
            onlyTheseChanged(what + ", pin " + pin + " off", chip, before, "");
            chip.pin(pin, true);
            onlyTheseChanged(what + ", pin " + pin + " on", chip, before, pin == Chips.SO ? "v" : "");
        }
    }

    private static void soChangesV(int number) {
        ClockedChip chip = Scenes.scene(number);
        int[] before = registers(chip);
        int done = chip.register(Chips.DONE);
        int pc = chip.register(Chips.PC);
        chip.pin(Chips.SO, true);
        onlyTheseChanged("scene " + number + ", SO", chip, before, "v");
        CHECK.same("scene " + number + ", PC behind SO", chip.register(Chips.PC), pc);
        CHECK.same("scene " + number + ", done behind SO", chip.register(Chips.DONE), done);
    }

    private static void setChangesOneRegister() {
        for (int which = 0; which < 6; which++) {
            int register = which;
            for (int v : new int[] {0, 1, 128, 255, 65535, -1}) {
                Scenes.changeNothing(CHECK, "set " + which + " to " + v + " and back", Scenes.NEW, chip -> {
                    int before = chip.register(register);
                    chip.set(register, v);
                    chip.set(register, before);
                });
            }
        }
    }
}
