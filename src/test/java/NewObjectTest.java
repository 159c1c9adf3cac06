/** Promise 1: a new object. */
public final class NewObjectTest {
    public static void main(String[] args) {
        Check check = new Check();
        ClockedChip bytes = new ClockedChip();
        // 1024 calls on one object would be too many: the document binds the first 512.
        for (int a = 0; a < 500; a++) {
            check.same("byte " + a, bytes.peek(a), 0);
        }
        ClockedChip more = new ClockedChip();
        for (int a = 500; a < 1000; a++) {
            check.same("byte " + a, more.peek(a), 0);
        }
        ClockedChip last = new ClockedChip();
        for (int a = 1000; a < 1024; a++) {
            check.same("byte " + a, last.peek(a), 0);
        }

        ClockedChip chip = new ClockedChip();
        check.registers("new", chip, 0, 0, 0, 0, 0, 32, 0, 0);
        check.same("NMI", chip.pin(Chips.NMI, false), false);
        check.same("IRQ", chip.pin(Chips.IRQ, false), false);
        check.same("READY", chip.pin(Chips.READY, true), true);
        check.same("SO", chip.pin(Chips.SO, false), false);
        check.registers("pins left as they were", chip, 0, 0, 0, 0, 0, 32, 0, 0);

        check.trace("LOAD A of 0", chip, Chips.read(0, 0), Chips.read(1, 0));
        check.registers("LOAD A of 0", chip, 0, 0, 0, 0, 2, 34, 0, 0);

        ClockedChip wanted = Chips.at(0, Chips.NOTHING);
        wanted.pin(Chips.NMI, true);
        wanted.pin(Chips.IRQ, true);
        check.trace("the first cycle is an instruction's", wanted, Chips.read(0, Chips.NOTHING));
        check.same("its PC", wanted.register(Chips.PC), 1);
        besideAUsedOne(check);
        check.finish();
    }

    /** Also when another one has been used before: no two of them share anything. */
    private static void besideAUsedOne(Check check) {
        ClockedChip used = Scenes.scene(Scenes.JAM);
        for (int pin = 0; pin < 4; pin++) {
            used.pin(pin, pin != Chips.READY);
        }
        ClockedChip chip = new ClockedChip();
        check.registers("beside a used one", chip, 0, 0, 0, 0, 0, 32, 0, 0);
        for (int pin = 0; pin < 4; pin++) {
            check.same("pin " + pin + " beside a used one", chip.pin(pin, false), pin == Chips.READY);
        }
        for (int address : new int[] {90, 91, 600, 601, 1018, 1019, 1023}) {
            check.same("byte " + address + " of the used one", used.peek(address) != 0, true);
            check.same("byte " + address + " beside it", chip.peek(address), 0);
        }
        chip.poke(600, 1);
        chip.set(Chips.A, 9);
        check.same("the used one's byte", used.peek(600), Chips.JAM);
        check.same("the used one's A", used.register(Chips.A), 71);
    }
}
