/** "S goes round in eight bits": at each push and pull of each instruction, interrupt and RESET that has one. */
public final class EdgeStackTest {
    private static final Check CHECK = new Check();

    public static void main(String[] args) {
        for (int s = 0; s < 256; s++) {
            pushA(s);
            pushFlags(s);
            pullA(s);
            pullFlags(s);
            call(s);
            returns(s);
            returnsFromInterrupt(s);
            breaks(s);
            interrupt(s);
            reset(s);
            sIsX(s);
        }
        theStackIsOnePage();
        onlyTheByteIsWritten();
        CHECK.finish();
    }

    private static int read(int address, int b) {
        return Chips.read(address, b);
    }

    private static int write(int address, int b) {
        return Chips.write(address, b);
    }

    /** Where the stack's byte is that lies so many above S. */
    private static int stack(int s, int above) {
        return 256 + Math.floorMod(s + above, 256);
    }

    private static ClockedChip chip(int s, int code) {
        ClockedChip chip = Chips.at(600, code, 81, 82);
        Chips.put(chip, 1018, 11, 3, 12, 3, 13, 3);
        for (int above = -2; above <= 4; above++) {
            chip.poke(stack(s, above), 140 + above);
        }
        chip.set(Chips.S, s);
        return chip;
    }

    private static void behind(String what, ClockedChip chip, int s, int moved) {
        CHECK.same(what + " with S " + s, chip.register(Chips.S), Math.floorMod(s + moved, 256));
    }

    private static void pushA(int s) {
        ClockedChip chip = chip(s, Chips.PUSH_A);
        chip.set(Chips.A, 5);
        CHECK.trace("PUSH A with S " + s, chip, read(600, Chips.PUSH_A), read(601, 81));
        behind("before PUSH A", chip, s, 0);
        CHECK.trace("PUSH A with S " + s, chip, write(stack(s, 0), 5));
        behind("PUSH A", chip, s, -1);
    }

    private static void pushFlags(int s) {
        ClockedChip chip = chip(s, Chips.PUSH_FLAGS);
        CHECK.trace("PUSH FLAGS with S " + s, chip, read(600, Chips.PUSH_FLAGS), read(601, 81));
        behind("before PUSH FLAGS", chip, s, 0);
        CHECK.trace("PUSH FLAGS with S " + s, chip, write(stack(s, 0), 32));
        behind("PUSH FLAGS", chip, s, -1);
    }

    private static void pullA(int s) {
        ClockedChip chip = chip(s, Chips.PULL_A);
        CHECK.trace("PULL A with S " + s, chip, read(600, Chips.PULL_A), read(601, 81), read(stack(s, 0), 140));
        behind("before PULL A", chip, s, 0);
        CHECK.trace("PULL A with S " + s, chip, read(stack(s, 1), 141));
        behind("PULL A", chip, s, 1);
        CHECK.same("A with S " + s, chip.register(Chips.A), 141);
    }

    private static void pullFlags(int s) {
        ClockedChip chip = chip(s, Chips.PULL_FLAGS);
        CHECK.trace("PULL FLAGS with S " + s, chip, read(600, Chips.PULL_FLAGS), read(601, 81),
            read(stack(s, 0), 140));
        behind("before PULL FLAGS", chip, s, 0);
        CHECK.trace("PULL FLAGS with S " + s, chip, read(stack(s, 1), 141));
        behind("PULL FLAGS", chip, s, 1);
        CHECK.same("P with S " + s, chip.register(Chips.P), 32 + 128 + 8 + 4 + 1);
    }

    private static void call(int s) {
        ClockedChip chip = chip(s, Chips.CALL);
        CHECK.trace("CALL with S " + s, chip, read(600, Chips.CALL), read(601, 81), read(stack(s, 0), 140));
        behind("before CALL's pushes", chip, s, 0);
        CHECK.trace("CALL with S " + s, chip, write(stack(s, 0), 2));
        behind("CALL's first push", chip, s, -1);
        CHECK.trace("CALL with S " + s, chip, write(stack(s, -1), 90));
        behind("CALL's second push", chip, s, -2);
        CHECK.trace("CALL with S " + s, chip, read(602, 82));
        behind("CALL", chip, s, -2);
        CHECK.same("PC of CALL with S " + s, chip.register(Chips.PC), 256 * 82 + 81);
    }

    private static void returns(int s) {
        ClockedChip chip = chip(s, Chips.RETURN);
        CHECK.trace("RETURN with S " + s, chip, read(600, Chips.RETURN), read(601, 81), read(stack(s, 0), 140));
        behind("before RETURN's pulls", chip, s, 0);
        CHECK.trace("RETURN with S " + s, chip, read(stack(s, 1), 141));
        behind("RETURN's first pull", chip, s, 1);
        CHECK.trace("RETURN with S " + s, chip, read(stack(s, 2), 142));
        behind("RETURN's second pull", chip, s, 2);
        chip.cycle();
        behind("RETURN", chip, s, 2);
        CHECK.same("PC of RETURN with S " + s, chip.register(Chips.PC), 256 * 142 + 141 + 1);
    }

    private static void returnsFromInterrupt(int s) {
        int code = Chips.RETURN_FROM_INTERRUPT;
        ClockedChip chip = chip(s, code);
        CHECK.trace("back with S " + s, chip, read(600, code), read(601, 81), read(stack(s, 0), 140));
        behind("before the pulls of RETURN FROM INTERRUPT", chip, s, 0);
        for (int pull = 1; pull <= 3; pull++) {
            CHECK.trace("back with S " + s + ", pull " + pull, chip, read(stack(s, pull), 140 + pull));
            behind("RETURN FROM INTERRUPT's pull " + pull, chip, s, pull);
        }
        CHECK.same("PC of RETURN FROM INTERRUPT with S " + s, chip.register(Chips.PC), 256 * 143 + 142);
    }

    private static void breaks(int s) {
        ClockedChip chip = chip(s, Chips.BREAK);
        CHECK.trace("BREAK with S " + s, chip, read(600, Chips.BREAK), read(601, 81));
        pushes("BREAK", chip, s, 90, 48);
        CHECK.trace("BREAK with S " + s, chip, read(65534, 13), read(65535, 3));
        behind("BREAK", chip, s, -3);
    }

    private static void interrupt(int s) {
        ClockedChip chip = chip(s, Chips.NOTHING);
        chip.pin(Chips.IRQ, true);
        chip.cycles(2);
        CHECK.trace("interrupt with S " + s, chip, read(601, 81), read(601, 81));
        pushes("interrupt", chip, s, 89, 32);
        CHECK.trace("interrupt with S " + s, chip, read(65534, 13), read(65535, 3));
        behind("interrupt", chip, s, -3);
    }

    private static void pushes(String what, ClockedChip chip, int s, int low, int p) {
        behind("before the pushes of " + what, chip, s, 0);
        CHECK.trace(what + " with S " + s, chip, write(stack(s, 0), 2));
        behind(what + ", first push", chip, s, -1);
        CHECK.trace(what + " with S " + s, chip, write(stack(s, -1), low));
        behind(what + ", second push", chip, s, -2);
        CHECK.trace(what + " with S " + s, chip, write(stack(s, -2), p));
        behind(what + ", third push", chip, s, -3);
    }

    /** "idle 256 + S three times with S 1 less behind each". */
    private static void reset(int s) {
        ClockedChip chip = chip(s, Chips.NOTHING);
        chip.reset();
        CHECK.trace("RESET with S " + s, chip, read(600, 7), read(600, 7));
        for (int idle = 0; idle < 3; idle++) {
            behind("RESET before idle " + idle, chip, s, -idle);
            CHECK.trace("RESET with S " + s, chip, read(stack(s, -idle), 140 - idle));
        }
        behind("RESET behind the idle ones", chip, s, -3);
        CHECK.trace("RESET with S " + s, chip, read(65532, 12), read(65533, 3));
        behind("RESET", chip, s, -3);
        for (int idle = 0; idle < 3; idle++) {
            CHECK.same("RESET writes nothing with S " + s, chip.peek(stack(s, -idle)), 140 - idle);
        }
    }

    /** "15 S = X", and "N and Z of them (not of S)". */
    private static void sIsX(int s) {
        ClockedChip chip = chip(255 - s, Chips.code(15, 7));
        chip.set(Chips.X, s);
        chip.set(Chips.P, s < 128 ? 130 : 0);
        chip.cycles(2);
        behind("S = X", chip, s, 0);
        CHECK.same("P of S = X " + s, chip.register(Chips.P), s < 128 ? 162 : 32);
    }

    /** More pushes than the stack has bytes: the first ones are written over, and nothing beside the page. */
    private static void theStackIsOnePage() {
        ClockedChip chip = Chips.at(600, Chips.PUSH_A, Chips.code(1, 7), Chips.code(6, 7), Chips.JUMP, 600 % 256, 2);
        chip.poke(255, 99);
        chip.poke(512, 98);
        chip.set(Chips.S, 1);
        for (int push = 0; push < 256; push++) {
            CHECK.same("instructions of push " + push, chip.cycles(10), 4);
        }
        CHECK.same("S goes round whole", chip.register(Chips.S), 1);
        CHECK.same("the first push", chip.peek(257), 0);
        CHECK.same("the second push", chip.peek(256), 1);
        CHECK.same("the third push", chip.peek(511), 2);
        CHECK.same("the last push", chip.peek(258), 255);
        chip.set(Chips.A, 77);
        chip.cycles(3);
        CHECK.same("one push more", chip.peek(257), 77);
        CHECK.same("below the page", chip.peek(255), 99);
        CHECK.same("above the page", chip.peek(512), 98);
    }

    private static void onlyTheByteIsWritten() {
        ClockedChip chip = chip(0, Chips.BREAK);
        chip.poke(255, 99);
        chip.poke(512, 98);
        chip.cycles(7);
        CHECK.same("below the page", chip.peek(255), 99);
        CHECK.same("above the page", chip.peek(512), 98);
        CHECK.same("above S", chip.peek(257), 141);
        CHECK.same("below the pushes", chip.peek(509), 0);
    }
}
