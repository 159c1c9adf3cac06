/** Promises 4 to 8: the chip against WholeInstructions, over programs made from fixed seeds. */
public final class RandomProgramTest {
    private static final int MOST_CALLS = 512;
    private static final Check CHECK = new Check();

    private int seed;
    private int calls;
    private boolean nmi;
    private final ClockedChip chip = new ClockedChip();
    private final WholeInstructions due = new WholeInstructions();

    private RandomProgramTest(int seed) {
        this.seed = seed;
    }

    public static void main(String[] args) {
        for (int seed = 1; seed <= 30000; seed++) {
            new RandomProgramTest(seed).run();
        }
        CHECK.finish();
    }

    private int any(int bound) {
        seed = seed * 1103515245 + 12345;
        return (seed >>> 8) % bound;
    }

    private void run() {
        int first = seed % 256;
        int name = seed;
        any(2);
        fill(first);
        registers();
        for (int i = 0; i < 60 && calls < MOST_CALLS - 40; i++) {
            turnPins();
            if (due.jammed || any(40) == 0) {
                chip.reset();
                calls++;
                due.runReset();
            } else {
                due.run();
            }
            compare("seed " + name + ", instruction " + i);
        }
    }

    private void put(int address, int b) {
        chip.poke(address, b);
        due.memory[address % 1024] = b;
        calls++;
    }

    /** The first code goes through all 256, the others are mostly such as do not jam. */
    private void fill(int firstCode) {
        for (int i = 0; i < 90; i++) {
            put(200 + i, anyCode());
            if (i % 2 == 0) {
                put(any(1024), anyCode());
            }
        }
        for (int i = 1018; i < 1024; i++) {
            put(i, any(256));
        }
        put(200, firstCode);
    }

    private int anyCode() {
        switch (any(6)) {
            case 0: return any(256);
            case 1: return 8 * any(23) + 7;
            case 2: return 8 * (16 + any(8));
            case 3: return 8 * (10 + any(4)) + 1 + any(4);
            default: return 8 * any(10) + any(7);
        }
    }

    private void registers() {
        due.a = any(256);
        due.x = any(256);
        due.y = any(256);
        due.s = any(3) == 0 ? any(3) : any(256);
        due.pc = 200 + 1024 * any(64);
        due.p = any(256) & 207;
        int[] all = {due.a, due.x, due.y, due.s, due.pc, due.p};
        for (int i = 0; i < 6; i++) {
            chip.set(i, all[i]);
        }
        calls += 6;
    }

    private void turnPins() {
        int chance = any(12);
        if (chance == 0) {
            due.irq = !due.irq;
            CHECK.same("IRQ", chip.pin(Chips.IRQ, due.irq), !due.irq);
        } else if (chance == 1) {
            nmi = !nmi;
            due.nmiWanted |= nmi;
            CHECK.same("NMI", chip.pin(Chips.NMI, nmi), !nmi);
        } else if (chance == 2) {
            chip.pin(Chips.SO, false);
            chip.pin(Chips.SO, true);
            due.p |= 64;
            calls++;
        }
        calls++;
    }

    private void compare(String what) {
        int waits = any(4) == 0 ? any(due.cycles.size()) : -1;
        for (int i = 0; i < due.cycles.size(); i++) {
            int answer = due.cycles.get(i);
            if (i == waits && (answer & 256) == 0) {
                chip.pin(Chips.READY, false);
                CHECK.trace(what + ", waiting", chip, answer);
                chip.pin(Chips.READY, true);
                calls += 3;
            }
            CHECK.trace(what + ", from cycle " + i, chip, answer);
            calls++;
        }
        CHECK.registers(what, chip, due.a, due.x, due.y, due.s, due.pc, due.p + 32, due.jammed ? 1 : 0,
            due.jammed ? 1 : 0);
        calls += 8;
    }
}
