/** The numbers that a call takes: the last one inside of what is allowed, and the first one outside of it. */
public final class EdgeNumbersTest {
    private static final Check CHECK = new Check();
    private static final int LEAST = Integer.MIN_VALUE;
    private static final int MOST = Integer.MAX_VALUE;

    public static void main(String[] args) {
        lowTenBitsCount();
        aByteHasOneNeighbourOnEachSide();
        addressesOfCyclesBeyondTenBits();
        pokeTakesAByte();
        pokeAnswersWhatWasThere();
        cyclesOf0To200();
        cyclesOfOtherNumbers();
        pins0To3();
        otherPins();
        registers0To7();
        otherRegisters();
        set0To5();
        setOfOtherRegisters();
        setTakesAByte();
        setTakesAPc();
        setTakesTheSixFlags();
        flagsOfAByteFromTheStack();
        theLastOf512Calls();
        CHECK.finish();
    }

    /** "MEMORY has 1024 bytes; addresses are 16 bits, of which the low ten count." */
    private static void lowTenBitsCount() {
        int[][] rows = {
            {0, 1024, 2048, 64512, 65536, 66560, -1024, -65536, LEAST, MOST - 1023},
            {1, 1025, 2049, 64513, 65537, 66561, -1023, -65535, LEAST + 1, MOST - 1022},
            {512, 1536, 2560, 65024, 66048, 131584, -512, -65024, LEAST + 512, MOST - 511},
            {1022, 2046, 3070, 65534, 66558, 131070, -2, -1026, LEAST + 1022, MOST - 1},
            {1023, 2047, 3071, 65535, 66559, 131071, -1, -1025, LEAST + 1023, MOST},
        };
        for (int[] same : rows) {
            for (int i = 0; i < same.length; i++) {
                ClockedChip chip = new ClockedChip();
                CHECK.same("poke at " + same[i], chip.poke(same[i], 90 + i), 0);
                for (int address : same) {
                    CHECK.same("poked at " + same[i] + ", peek at " + address, chip.peek(address), 90 + i);
                }
                CHECK.same("poke again at " + same[0], chip.poke(same[0], 1), 90 + i);
                CHECK.same("peek again at " + same[i], chip.peek(same[i]), 1);
            }
        }
    }

    private static void aByteHasOneNeighbourOnEachSide() {
        int[] addresses = {0, 255, 256, 511, 512, 1022, 1023, 1024, 65535, 65536, -1, LEAST, MOST};
        for (int address : addresses) {
            ClockedChip chip = new ClockedChip();
            chip.poke(address, 255);
            for (int bit = 1; bit < 1024; bit *= 2) {
                CHECK.same(address + " without bit " + bit, chip.peek(address ^ bit), 0);
            }
            CHECK.same("behind " + address, chip.peek(address + 1), 0);
            CHECK.same("before " + address, chip.peek(address - 1), 0);
        }
    }

    /** Of a cycle's address all sixteen bits are answered; of the memory the low ten count. */
    private static void addressesOfCyclesBeyondTenBits() {
        int[] pages = {0, 3, 4, 7, 8, 127, 128, 251, 252, 255};
        for (int page : pages) {
            int at = 256 * page + 254;
            ClockedChip chip = Chips.at(20, Chips.code(Chips.STORE_A, 3), 254, page, Chips.code(Chips.LOAD_X, 3), 254,
                page, Chips.code(Chips.MORE, 3), 254, page, Chips.JUMP, 254, page);
            chip.set(Chips.A, 6);
            chip.cycles(3);
            CHECK.trace("store at " + at, chip, Chips.write(at, 6));
            CHECK.same("stored at " + at, chip.peek(at % 1024), 6);
            chip.cycles(3);
            CHECK.trace("load at " + at, chip, Chips.read(at, 6));
            chip.cycles(3);
            CHECK.trace("more at " + at, chip, Chips.read(at, 6), Chips.write(at, 6), Chips.write(at, 7));
            CHECK.same("changed at " + at, chip.peek(at % 1024), 7);
            chip.cycles(3);
            CHECK.same("jumped to " + at, chip.register(Chips.PC), at);
            CHECK.trace("nothing at " + at, chip, Chips.read(at, 7), Chips.read(at + 1, chip.peek(at + 1)));
        }
    }

    /** "The byte at an address becomes v mod 256". */
    private static void pokeTakesAByte() {
        int[][] rows = {{0, 0}, {1, 1}, {127, 127}, {128, 128}, {254, 254}, {255, 255}, {256, 0}, {257, 1}, {511, 255},
            {512, 0}, {65535, 255}, {65536, 0}, {-1, 255}, {-2, 254}, {-128, 128}, {-255, 1}, {-256, 0}, {-257, 255},
            {LEAST, 0}, {LEAST + 1, 1}, {MOST, 255}, {MOST - 1, 254}};
        for (int[] row : rows) {
            ClockedChip chip = new ClockedChip();
            chip.poke(40, 77);
            chip.poke(40, row[0]);
            CHECK.same("peek of " + row[0], chip.peek(40), row[1]);
            CHECK.same("poke over " + row[0], chip.poke(40, 0), row[1]);
            CHECK.same("the byte behind " + row[0], chip.peek(41), 0);
        }
    }

    /** "the one that was there": also when it is the same, and when the chip has written it. */
    private static void pokeAnswersWhatWasThere() {
        ClockedChip chip = new ClockedChip();
        CHECK.same("a new one", chip.poke(0, 255), 0);
        CHECK.same("the same", chip.poke(0, 255), 255);
        CHECK.same("the same once more", chip.poke(0, 0), 255);
        CHECK.same("0", chip.poke(0, Chips.PUSH_A), 0);
        chip.set(Chips.A, 255);
        chip.cycles(3);
        CHECK.same("a pushed one", chip.poke(256, 3), 255);
        CHECK.same("poked over it", chip.peek(256), 3);
    }

    /** "So many cycles": in a new memory each instruction is a LOAD A of two cycles. */
    private static void cyclesOf0To200() {
        int[] numbers = {0, 1, 2, 3, 100, 199, 200};
        for (int n : numbers) {
            ClockedChip chip = new ClockedChip();
            CHECK.same("cycles of " + n, chip.cycles(n), n / 2);
            CHECK.same("PC behind " + n, chip.register(Chips.PC), n);
            CHECK.same("done behind " + n, chip.register(Chips.DONE), n % 2);
            CHECK.trace("the cycle behind " + n, chip, Chips.read(n, 0));
        }
        ClockedChip begun = new ClockedChip();
        begun.cycle();
        CHECK.same("from the middle", begun.cycles(1), 1);
        CHECK.same("none from the end", begun.cycles(0), 0);
        begun.cycle();
        CHECK.same("200 from the middle", begun.cycles(200), 100);
        CHECK.same("none from the middle", begun.cycles(0), 0);
    }

    /** "Throws IllegalArgumentException when n is not 0 .. 200." */
    private static void cyclesOfOtherNumbers() {
        int[] numbers = {-1, 201, -2, 202, -200, 255, 256, 257, 456, 65536, -256, -65536, LEAST, LEAST + 1, LEAST + 200,
            MOST};
        ClockedChip chip = new ClockedChip();
        for (int n : numbers) {
            CHECK.fails("cycles of " + n, IllegalArgumentException.class, () -> chip.cycles(n));
            CHECK.registers("refused " + n, chip, 0, 0, 0, 0, 0, 32, 0, 0);
        }
        CHECK.trace("no cycle was run", chip, Chips.read(0, 0));
    }

    /** "The pins NMI, IRQ, READY and SO (0 to 3) are turned on or off: whether it was on." */
    private static void pins0To3() {
        for (int pin = 0; pin < 4; pin++) {
            ClockedChip chip = new ClockedChip();
            boolean first = pin == Chips.READY;
            CHECK.same("pin " + pin + " of a new chip", chip.pin(pin, true), first);
            CHECK.same("pin " + pin + ", on again", chip.pin(pin, true), true);
            CHECK.same("pin " + pin + ", off", chip.pin(pin, false), true);
            CHECK.same("pin " + pin + ", off again", chip.pin(pin, false), false);
            CHECK.same("pin " + pin + ", on at last", chip.pin(pin, true), false);
            for (int other = 0; other < 4; other++) {
                if (other != pin) {
                    boolean still = other == Chips.READY;
                    CHECK.same("pin " + other + " beside " + pin, chip.pin(other, still), still);
                }
            }
        }
    }

    /** "Throws IndexOutOfBoundsException for another number." */
    private static void otherPins() {
        int[] numbers = {-1, 4, -2, 5, 8, 255, 256, 258, 65536, 65538, -4, -256, LEAST, LEAST + 2, MOST};
        ClockedChip chip = new ClockedChip();
        for (int pin : numbers) {
            CHECK.fails("pin " + pin + " on", IndexOutOfBoundsException.class, () -> chip.pin(pin, true));
            CHECK.fails("pin " + pin + " off", IndexOutOfBoundsException.class, () -> chip.pin(pin, false));
        }
        for (int pin = 0; pin < 4; pin++) {
            CHECK.same("pin " + pin + " was not turned", chip.pin(pin, pin == Chips.READY), pin == Chips.READY);
        }
        CHECK.registers("behind refused pins", chip, 0, 0, 0, 0, 0, 32, 0, 0);
    }

    private static void registers0To7() {
        ClockedChip chip = Chips.at(515, Chips.JAM);
        for (int which = 0; which < 4; which++) {
            chip.set(which, 252 + which);
        }
        chip.set(Chips.P, 255);
        CHECK.registers("registers 0 to 7", chip, 252, 253, 254, 255, 515, 239, 0, 0);
        chip.cycle();
        CHECK.registers("registers 0 to 7, jammed", chip, 252, 253, 254, 255, 516, 239, 1, 1);
    }

    /** "Throws IndexOutOfBoundsException for any other number." */
    private static void otherRegisters() {
        int[] numbers = {-1, 8, -2, 9, 16, 255, 256, 261, 65536, 65541, -8, -256, LEAST, LEAST + 5, MOST};
        ClockedChip chip = Chips.at(0, Chips.JAM);
        for (int which : numbers) {
            CHECK.fails("register " + which, IndexOutOfBoundsException.class, () -> chip.register(which));
        }
        chip.cycle();
        for (int which : numbers) {
            CHECK.fails("register " + which + ", jammed", IndexOutOfBoundsException.class, () -> chip.register(which));
        }
    }

    /** "A register 0 .. 5 becomes v": that one, and no other. */
    private static void set0To5() {
        for (int which = 0; which < 6; which++) {
            ClockedChip chip = new ClockedChip();
            chip.set(which, 195);
            for (int other = 0; other < 8; other++) {
                int unset = other == Chips.P ? 32 : 0;
                int due = other != which ? unset : other == Chips.P ? 227 : 195;
                CHECK.same("set " + which + ", register " + other, chip.register(other), due);
            }
            chip.set(which, 0);
            CHECK.registers("set " + which + " to 0", chip, 0, 0, 0, 0, 0, 32, 0, 0);
        }
    }

    /** "Throws IndexOutOfBoundsException for another number": also where every set is refused. */
    private static void setOfOtherRegisters() {
        int[] numbers = {-1, 6, -2, 7, 8, 255, 256, 261, 65536, 65541, -6, -256, LEAST, LEAST + 5, MOST};
        ClockedChip chip = Chips.at(0, Chips.NOTHING, Chips.JAM);
        for (int round = 0; round < 4; round++) {
            for (int which : numbers) {
                CHECK.fails("set " + which, IndexOutOfBoundsException.class, () -> chip.set(which, 1));
            }
            chip.cycle();
        }
        CHECK.registers("nothing was set", chip, 0, 0, 0, 0, 2, 32, 1, 1);
    }

    /** "becomes v (mod 256 ...)". */
    private static void setTakesAByte() {
        int[][] rows = {{255, 255}, {256, 0}, {257, 1}, {511, 255}, {512, 0}, {65535, 255}, {65536, 0}, {-1, 255},
            {-128, 128}, {-255, 1}, {-256, 0}, {-257, 255}, {LEAST, 0}, {LEAST + 9, 9}, {MOST, 255}};
        for (int which = 0; which < 4; which++) {
            for (int[] row : rows) {
                ClockedChip chip = new ClockedChip();
                chip.set(which, 99);
                chip.set(which, row[0]);
                CHECK.same("register " + which + " of " + row[0], chip.register(which), row[1]);
                CHECK.same("P is left by set " + which, chip.register(Chips.P), 32);
            }
        }
    }

    /** "PC mod 65536". */
    private static void setTakesAPc() {
        int[][] rows = {{255, 255}, {256, 256}, {1023, 1023}, {1024, 1024}, {32768, 32768}, {65534, 65534},
            {65535, 65535}, {65536, 0}, {65537, 1}, {131071, 65535}, {131072, 0}, {-1, 65535}, {-2, 65534},
            {-65535, 1}, {-65536, 0}, {-65537, 65535}, {LEAST, 0}, {LEAST + 9, 9}, {MOST, 65535}};
        for (int[] row : rows) {
            ClockedChip chip = new ClockedChip();
            chip.poke(row[1], 199);
            chip.set(Chips.PC, row[0]);
            CHECK.same("PC of " + row[0], chip.register(Chips.PC), row[1]);
            CHECK.trace("the cycle at " + row[0], chip, Chips.read(row[1], 199));
        }
    }

    /** "of P the six flags alone". */
    private static void setTakesTheSixFlags() {
        for (int v = 0; v < 256; v++) {
            ClockedChip chip = new ClockedChip();
            chip.set(Chips.P, 255 - v);
            chip.set(Chips.P, v);
            CHECK.same("P of " + v, chip.register(Chips.P), sixFlags(v));
        }
        int[][] rows = {{256, 32}, {257, 33}, {511, 239}, {65536, 32}, {-1, 239}, {-256, 32}, {-257, 239}, {-208, 32},
            {LEAST, 32}, {LEAST + 64, 96}, {MOST, 239}};
        for (int[] row : rows) {
            ClockedChip chip = new ClockedChip();
            chip.set(Chips.P, row[0]);
            CHECK.same("P of " + row[0], chip.register(Chips.P), row[1]);
        }
    }

    private static int sixFlags(int v) {
        int p = 32;
        for (int flag : new int[] {1, 2, 4, 8, 64, 128}) {
            p += v / flag % 2 == 1 ? flag : 0;
        }
        return p;
    }

    /** "PULL FLAGS and RETURN FROM INTERRUPT: the six flags as in the byte." */
    private static void flagsOfAByteFromTheStack() {
        for (int b = 0; b < 256; b++) {
            ClockedChip pull = Chips.at(0, Chips.PULL_FLAGS);
            pull.set(Chips.P, 255 - b);
            pull.poke(257, b);
            pull.cycles(4);
            CHECK.same("PULL FLAGS of " + b, pull.register(Chips.P), sixFlags(b));
            ClockedChip back = Chips.at(0, Chips.RETURN_FROM_INTERRUPT);
            back.set(Chips.P, 255 - b);
            back.poke(257, b);
            back.cycles(6);
            CHECK.same("RETURN FROM INTERRUPT of " + b, back.register(Chips.P), sixFlags(b));
            ClockedChip push = Chips.at(0, Chips.PUSH_FLAGS);
            push.set(Chips.P, b);
            push.cycles(2);
            CHECK.trace("PUSH FLAGS of " + b, push, Chips.write(256, sixFlags(b)));
        }
    }

    /** "An object is used for at most 512 calls": the last of them answers as the first, whichever they are. */
    private static void theLastOf512Calls() {
        ClockedChip single = new ClockedChip();
        ClockedChip most = new ClockedChip();
        ClockedChip memory = new ClockedChip();
        ClockedChip peeked = Chips.at(700, 9);
        ClockedChip pins = new ClockedChip();
        ClockedChip asked = Chips.at(700, 9);
        ClockedChip registers = new ClockedChip();
        for (int call = 1; call <= 512; call++) {
            CHECK.trace("call " + call, single, Chips.read(call - 1, 0));
            CHECK.same("cycles of 200, call " + call, most.cycles(200), 100);
            CHECK.same("poke, call " + call, memory.poke(3, call), (call - 1) % 256);
            if (call <= 510) {
                CHECK.same("peek, call " + call, peeked.peek(700), 9);
                CHECK.same("register, call " + call, asked.register(Chips.PC), 700);
            }
            CHECK.same("pin, call " + call, pins.pin(Chips.IRQ, call % 2 == 1), call % 2 == 0);
            if (call % 2 == 1) {
                registers.set(Chips.X, call);
            } else {
                CHECK.same("set, call " + call, registers.register(Chips.X), (call - 1) % 256);
            }
        }
        theLastOf512Resets();
        theLastOf512Sets();
        theLastOf512Refusals();
    }

    private static void theLastOf512Resets() {
        ClockedChip chip = new ClockedChip();
        for (int call = 1; call <= 511; call += 2) {
            chip.reset();
            CHECK.same("RESET, then an instruction of its nine cycles, call " + call, chip.cycles(9), 2);
        }
    }

    private static void theLastOf512Sets() {
        ClockedChip chip = new ClockedChip();
        for (int call = 1; call <= 511; call++) {
            chip.set(Chips.PC, call);
        }
        CHECK.trace("PC of the last set, call 512", chip, Chips.read(511, 0));
    }

    private static void theLastOf512Refusals() {
        ClockedChip chip = new ClockedChip();
        for (int call = 1; call <= 512; call++) {
            switch (call % 4) {
                case 0 -> CHECK.fails("pin 4", IndexOutOfBoundsException.class, () -> chip.pin(4, true));
                case 1 -> CHECK.fails("cycles of 201", IllegalArgumentException.class, () -> chip.cycles(201));
                case 2 -> CHECK.fails("register 8", IndexOutOfBoundsException.class, () -> chip.register(8));
                default -> CHECK.fails("set 6", IndexOutOfBoundsException.class, () -> chip.set(6, 0));
            }
        }
    }
}
