/** Makes chips for tests, and the answers of cycle(). */
final class Chips {
    static final int LOAD_A = 0;
    static final int STORE_A = 1;
    static final int ADD = 2;
    static final int SUBTRACT = 3;
    static final int AND = 4;
    static final int OR = 5;
    static final int XOR = 6;
    static final int COMPARE = 7;
    static final int LOAD_X = 8;
    static final int LOAD_Y = 9;
    static final int MORE = 10;
    static final int LESS = 11;
    static final int LEFT = 12;
    static final int RIGHT = 13;

    static final int NOTHING = 7;
    static final int I_OFF = 11 * 8 + 7;
    static final int I_ON = 12 * 8 + 7;
    static final int PUSH_A = 16 * 8 + 7;
    static final int PULL_A = 17 * 8 + 7;
    static final int PUSH_FLAGS = 18 * 8 + 7;
    static final int PULL_FLAGS = 19 * 8 + 7;
    static final int RETURN = 20 * 8 + 7;
    static final int RETURN_FROM_INTERRUPT = 21 * 8 + 7;
    static final int BREAK = 22 * 8 + 7;
    static final int JUMP = 24 * 8 + 3;
    static final int CALL = 25 * 8 + 3;
    static final int JAM = 255;

    static final int A = 0;
    static final int X = 1;
    static final int Y = 2;
    static final int S = 3;
    static final int PC = 4;
    static final int P = 5;
    static final int JAMMED = 6;
    static final int DONE = 7;

    static final int NMI = 0;
    static final int IRQ = 1;
    static final int READY = 2;
    static final int SO = 3;

    private Chips() { }

    /** A chip whose PC is at the given bytes. */
    static ClockedChip at(int pc, int... bytes) {
        ClockedChip chip = new ClockedChip();
        put(chip, pc, bytes);
        chip.set(PC, pc);
        return chip;
    }

    static void put(ClockedChip chip, int address, int... bytes) {
        for (int i = 0; i < bytes.length; i++) {
            chip.poke(address + i, bytes[i]);
        }
    }

    static int code(int operation, int mode) {
        return 8 * operation + mode;
    }

    static int read(int address, int b) {
        return 512 * address + b;
    }

    static int write(int address, int b) {
        return 512 * address + 256 + b;
    }
}
