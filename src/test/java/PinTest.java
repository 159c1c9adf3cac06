/** Promise 6: the pins, and what comes of them. */
public final class PinTest {
    private static final Check CHECK = new Check();

    public static void main(String[] args) {
        answers();
        irq();
        irqAtTheEndAlone();
        nmi();
        nmiTakesTheVector();
        nmiBetweenTheVectorsBytes();
        ready();
        readyAndWrites();
        readyAtTheVector();
        so();
        soWithinAnInstruction();
        CHECK.finish();
    }

    private static int read(int address, int b) {
        return Chips.read(address, b);
    }

    private static int write(int address, int b) {
        return Chips.write(address, b);
    }

    /** Vectors: NMI 512, RESET 544, the other one 576; "nothing" everywhere the PC comes. */
    private static ClockedChip chip(int... bytes) {
        ClockedChip chip = Chips.at(0, bytes);
        Chips.put(chip, 1018, 0, 2, 32, 2, 64, 2);
        Chips.put(chip, 512, Chips.NOTHING, Chips.NOTHING);
        Chips.put(chip, 576, Chips.NOTHING, Chips.NOTHING);
        chip.set(Chips.S, 255);
        return chip;
    }

    private static void answers() {
        ClockedChip chip = new ClockedChip();
        for (int pin = 0; pin < 4; pin++) {
            boolean first = pin == Chips.READY;
            CHECK.same("pin " + pin, chip.pin(pin, first), first);
            CHECK.same("pin " + pin + " turned", chip.pin(pin, !first), first);
            CHECK.same("pin " + pin + " left", chip.pin(pin, !first), !first);
            CHECK.same("pin " + pin + " turned back", chip.pin(pin, first), !first);
            CHECK.same("pin " + pin + " back", chip.pin(pin, first), first);
        }
        int[] wrong = {-1, 4, 5, Integer.MIN_VALUE, Integer.MAX_VALUE};
        for (int pin : wrong) {
            CHECK.fails("pin " + pin, IndexOutOfBoundsException.class, () -> chip.pin(pin, true));
        }
    }

    private static void irq() {
        ClockedChip chip = chip(Chips.NOTHING, Chips.NOTHING, Chips.NOTHING);
        chip.pin(Chips.IRQ, true);
        CHECK.trace("the instruction first", chip, read(0, 7), read(1, 7));
        CHECK.trace("the interrupt", chip, read(1, 7), read(1, 7), write(511, 0), write(510, 1), write(509, 32));
        CHECK.registers("I with the push of P", chip, 0, 0, 0, 252, 1, 36, 0, 5);
        CHECK.trace("the vector", chip, read(65534, 64), read(65535, 2), read(576, 7), read(577, 7), read(577, 7));
        CHECK.same("P", chip.register(Chips.P), 36);

        ClockedChip masked = chip(Chips.NOTHING, Chips.I_OFF, Chips.NOTHING);
        masked.set(Chips.P, 4);
        masked.pin(Chips.IRQ, true);
        CHECK.trace("I is 1", masked, read(0, 7), read(1, 95));
        CHECK.trace("I becomes 0", masked, read(1, 95), read(2, 7));
        CHECK.trace("then it begins", masked, read(2, 7), read(2, 7), write(511, 0), write(510, 2), write(509, 32));

        ClockedChip masking = chip(Chips.I_ON, Chips.NOTHING);
        masking.pin(Chips.IRQ, true);
        CHECK.trace("I becomes 1", masking, read(0, 103), read(1, 7), read(1, 7), read(2, 0), read(2, 0));
        CHECK.same("an instruction", masking.register(Chips.PC), 3);

        ClockedChip back = chip(Chips.RETURN_FROM_INTERRUPT);
        back.set(Chips.S, 250);
        back.set(Chips.P, 4);
        Chips.put(back, 507, 0, 3, 0);
        back.pin(Chips.IRQ, true);
        back.cycles(6);
        CHECK.trace("behind RETURN FROM INTERRUPT", back, read(3, 0), read(3, 0), write(509, 0));
    }

    private static void irqAtTheEndAlone() {
        ClockedChip gone = chip(Chips.NOTHING, Chips.NOTHING);
        gone.cycle();
        gone.pin(Chips.IRQ, true);
        gone.pin(Chips.IRQ, false);
        CHECK.trace("off before the end", gone, read(1, 7), read(1, 7), read(2, 0), read(2, 0));
        CHECK.same("no interrupt", gone.register(Chips.PC), 3);

        ClockedChip late = chip(Chips.NOTHING, Chips.NOTHING);
        late.cycles(2);
        late.pin(Chips.IRQ, true);
        CHECK.trace("on behind the end", late, read(1, 7), read(2, 0), read(2, 0), read(2, 0), write(511, 0));

        ClockedChip begun = chip(Chips.NOTHING, Chips.NOTHING);
        begun.pin(Chips.IRQ, true);
        begun.cycles(2);
        begun.pin(Chips.IRQ, false);
        CHECK.trace("off behind the end", begun, read(1, 7), read(1, 7), write(511, 0), write(510, 1),
            write(509, 32), read(65534, 64), read(65535, 2));

        ClockedChip set = chip(Chips.NOTHING, Chips.NOTHING);
        set.set(Chips.P, 4);
        set.pin(Chips.IRQ, true);
        set.cycles(2);
        set.set(Chips.P, 0);
        CHECK.trace("I is set to 0 behind the end", set, read(1, 7), read(2, 0), read(2, 0), read(2, 0),
            write(511, 0));
    }

    private static void nmi() {
        ClockedChip chip = chip(Chips.NOTHING, Chips.NOTHING);
        chip.set(Chips.P, 4);
        chip.cycle();
        chip.pin(Chips.NMI, true);
        chip.pin(Chips.NMI, false);
        CHECK.trace("NMI heeds no I, and is wanted though it is off", chip, read(1, 7), read(1, 7), read(1, 7),
            write(511, 0), write(510, 1), write(509, 36), read(65530, 0), read(65531, 2), read(512, 7), read(513, 7),
            read(513, 7), read(514, 0));

        ClockedChip held = chip(Chips.NOTHING);
        held.pin(Chips.NMI, true);
        held.cycles(9);
        held.pin(Chips.NMI, true);
        CHECK.trace("it stays on: once", held, read(512, 7), read(513, 7), read(513, 7), read(514, 0));
        held.pin(Chips.NMI, false);
        held.pin(Chips.NMI, true);
        CHECK.trace("again", held, read(514, 0), read(515, 0), read(516, 0), read(516, 0), write(508, 2));
    }

    private static void nmiTakesTheVector() {
        ClockedChip irq = chip(Chips.NOTHING, Chips.NOTHING);
        irq.pin(Chips.IRQ, true);
        irq.cycles(7);
        irq.pin(Chips.NMI, true);
        CHECK.trace("NMI just before the vector", irq, read(65530, 0), read(65531, 2), read(512, 7), read(513, 7),
            read(513, 7), read(514, 0));

        ClockedChip broken = chip(Chips.BREAK, 9);
        broken.cycles(2);
        broken.pin(Chips.NMI, true);
        CHECK.trace("NMI within BREAK", broken, write(511, 0), write(510, 2), write(509, 48), read(65530, 0),
            read(65531, 2), read(512, 7), read(513, 7), read(513, 7), read(514, 0));
    }

    private static void nmiBetweenTheVectorsBytes() {
        ClockedChip chip = chip(Chips.BREAK, 9);
        chip.cycles(6);
        chip.pin(Chips.NMI, true);
        CHECK.trace("the second byte, then NMI", chip, read(65535, 2), read(576, 7), read(576, 7), write(508, 2),
            write(507, 64), write(506, 36), read(65530, 0), read(65531, 2), read(512, 7));
        CHECK.same("PC", chip.register(Chips.PC), 513);
    }

    private static void ready() {
        ClockedChip chip = chip(Chips.code(Chips.LOAD_A, 3), 60, 0, Chips.PULL_A, Chips.JAM);
        chip.poke(60, 5);
        int[] due = {read(0, 3), read(1, 60), read(2, 0), read(60, 5), read(3, 143), read(4, 255), read(511, 0),
            read(256, 0), read(4, 255)};
        for (int answer : due) {
            chip.pin(Chips.READY, false);
            int[] before = registers(chip);
            CHECK.trace("waiting", chip, answer, answer);
            CHECK.registers("waiting", chip, before);
            chip.pin(Chips.READY, true);
            CHECK.trace("going on", chip, answer);
        }
        CHECK.registers("at last", chip, 0, 0, 0, 0, 5, 34, 1, 1);

        ClockedChip other = chip(Chips.code(Chips.LOAD_A, 1), 60);
        other.pin(Chips.READY, false);
        other.cycle();
        other.poke(0, Chips.NOTHING);
        CHECK.trace("it reads anew", other, read(0, 7));
        other.pin(Chips.READY, true);
        CHECK.trace("and that counts", other, read(0, 7), read(1, 60), read(1, 60));

        ClockedChip late = chip(Chips.NOTHING, Chips.NOTHING);
        late.cycle();
        late.pin(Chips.READY, false);
        late.cycles(3);
        late.pin(Chips.IRQ, true);
        late.pin(Chips.READY, true);
        CHECK.trace("the end is when READY lets it be", late, read(1, 7), read(1, 7), read(1, 7), write(511, 0));
    }

    private static int[] registers(ClockedChip chip) {
        int[] all = new int[8];
        for (int i = 0; i < 8; i++) {
            all[i] = chip.register(i);
        }
        return all;
    }

    private static void readyAndWrites() {
        ClockedChip chip = chip(Chips.code(Chips.MORE, 1), 60, Chips.PUSH_A, Chips.NOTHING);
        chip.cycles(3);
        chip.pin(Chips.READY, false);
        CHECK.trace("writes do not wait", chip, write(60, 0), write(60, 1), read(2, 135), read(2, 135));
        chip.pin(Chips.READY, true);
        chip.cycles(2);
        chip.pin(Chips.READY, false);
        CHECK.trace("a push does not wait", chip, write(511, 0), read(3, 7), read(3, 7));
        CHECK.same("S", chip.register(Chips.S), 254);

        ClockedChip broken = chip(Chips.BREAK, 9);
        broken.cycles(2);
        broken.pin(Chips.READY, false);
        CHECK.trace("three pushes", broken, write(511, 0), write(510, 2), write(509, 48), read(65534, 64),
            read(65534, 64));
        CHECK.registers("three pushes", broken, 0, 0, 0, 252, 2, 36, 0, 5);
    }

    private static void readyAtTheVector() {
        ClockedChip chip = chip(Chips.BREAK, 9);
        chip.cycles(5);
        chip.pin(Chips.READY, false);
        CHECK.trace("waiting at the vector", chip, read(65534, 64));
        chip.pin(Chips.NMI, true);
        CHECK.trace("NMI is not served by a mere reading", chip, read(65530, 0), read(65530, 0));
        chip.pin(Chips.READY, true);
        CHECK.trace("NMI is served", chip, read(65530, 0), read(65531, 2), read(512, 7), read(513, 7), read(513, 7),
            read(514, 0));
    }

    private static void so() {
        ClockedChip chip = new ClockedChip();
        chip.pin(Chips.SO, true);
        CHECK.same("V is 1", chip.register(Chips.P), 96);
        chip.set(Chips.P, 0);
        chip.pin(Chips.SO, true);
        CHECK.same("it was on", chip.register(Chips.P), 32);
        chip.pin(Chips.SO, false);
        CHECK.same("it goes off", chip.register(Chips.P), 32);
        chip.pin(Chips.SO, true);
        CHECK.same("it goes on again", chip.register(Chips.P), 96);
    }

    private static void soWithinAnInstruction() {
        int ifV = Chips.code(19, 0);
        ClockedChip early = chip(ifV, 5);
        early.cycle();
        early.pin(Chips.SO, true);
        CHECK.trace("SO before the branch's second cycle", early, read(1, 5), read(2, 0), read(7, 0));
        ClockedChip late = chip(ifV, 5);
        late.cycles(2);
        late.pin(Chips.SO, true);
        CHECK.trace("SO behind it", late, read(2, 0), read(3, 0), read(4, 0));
        ClockedChip pushed = chip(Chips.PUSH_FLAGS);
        pushed.cycles(2);
        pushed.pin(Chips.SO, true);
        CHECK.trace("SO before a push of P", pushed, write(511, 96));
        ClockedChip added = chip(Chips.code(Chips.ADD, 0), 1);
        added.cycle();
        added.pin(Chips.SO, true);
        CHECK.same("SO within ADD", added.register(Chips.P), 96);
        added.cycle();
        CHECK.same("ADD behind SO", added.register(Chips.P), 32);
        ClockedChip jammed = chip(Chips.JAM);
        jammed.cycle();
        jammed.pin(Chips.SO, true);
        CHECK.same("SO when it is jammed", jammed.register(Chips.P), 96);
    }
}
