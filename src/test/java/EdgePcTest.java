/** PC: "16 bits", at each place where it is 1 more; and a branch's new PC with its page. */
public final class EdgePcTest {
    private static final Check CHECK = new Check();
    private static final int ALWAYS = Chips.code(20, 0);

    public static void main(String[] args) {
        immediate();
        zero();
        far();
        withoutOperand();
        pushAndPull();
        jump();
        call();
        returns();
        returnsFromInterrupt();
        breaks();
        interrupt();
        reset();
        jam();
        branchNotTaken();
        branchDistances();
        branchOnTheSamePage();
        branchToAnotherPage();
        branchFromAPagesEnd();
        branchBeyondSixteenBits();
        CHECK.finish();
    }

    private static int read(int address, int b) {
        return Chips.read(address, b);
    }

    private static int write(int address, int b) {
        return Chips.write(address, b);
    }

    /** Runs a cycle and asks for its answer and for PC behind it. */
    private static void step(String what, ClockedChip chip, int answer, int pc) {
        CHECK.trace(what, chip, answer);
        CHECK.same(what + ", PC behind " + (answer >> 9), chip.register(Chips.PC), pc);
    }

    /** "0: EA is PC, and PC is 1 more." */
    private static void immediate() {
        for (int operation = 0; operation < 10; operation++) {
            if (operation != Chips.STORE_A) {
                int code = Chips.code(operation, 0);
                ClockedChip last = Chips.at(65534, code, 41);
                step("immediate at 65534", last, read(65534, code), 65535);
                step("immediate at 65534", last, read(65535, 41), 0);
                ClockedChip round = Chips.at(65535, code, 41);
                step("immediate at 65535", round, read(65535, code), 0);
                step("immediate at 65535", round, read(0, 41), 1);
            }
        }
    }

    /** "next" is to read the byte at PC, and PC is 1 more: its second byte is at 0, or PC is 0 behind it. */
    private static void zero() {
        int[] modes = {1, 2, 5, 6};
        for (int mode : modes) {
            int code = Chips.code(Chips.LOAD_X, mode);
            ClockedChip last = Chips.at(65534, code, 90);
            step("mode " + mode + " at 65534", last, read(65534, code), 65535);
            step("mode " + mode + " at 65534", last, read(65535, 90), 0);
            ClockedChip round = Chips.at(65535, code, 90);
            step("mode " + mode + " at 65535", round, read(65535, code), 0);
            step("mode " + mode + " at 65535", round, read(0, 90), 1);
        }
    }

    private static void far() {
        for (int mode = 3; mode < 5; mode++) {
            int code = Chips.code(Chips.LOAD_X, mode);
            ClockedChip last = Chips.at(65533, code, 90, 2);
            step("mode " + mode + " at 65533", last, read(65533, code), 65534);
            step("mode " + mode + " at 65533", last, read(65534, 90), 65535);
            step("mode " + mode + " at 65533", last, read(65535, 2), 0);
            step("mode " + mode + " at 65533", last, read(602, 0), 0);
            ClockedChip middle = Chips.at(65534, code, 90, 2);
            step("mode " + mode + " at 65534", middle, read(65534, code), 65535);
            step("mode " + mode + " at 65534", middle, read(65535, 90), 0);
            step("mode " + mode + " at 65534", middle, read(0, 2), 1);
            ClockedChip round = Chips.at(65535, code, 90, 2);
            step("mode " + mode + " at 65535", round, read(65535, code), 0);
            step("mode " + mode + " at 65535", round, read(0, 90), 1);
            step("mode " + mode + " at 65535", round, read(1, 2), 2);
        }
    }

    /** "Mode 7, 0 to 15: idle PC." */
    private static void withoutOperand() {
        for (int operation = 0; operation < 16; operation++) {
            int code = Chips.code(operation, 7);
            ClockedChip chip = Chips.at(65535, code, 41);
            step("mode 7 of " + operation, chip, read(65535, code), 0);
            step("mode 7 of " + operation, chip, read(0, 41), 0);
            CHECK.same("mode 7 of " + operation + " is at its end", chip.register(Chips.DONE), 0);
        }
    }

    private static void pushAndPull() {
        for (int code : new int[] {Chips.PUSH_A, Chips.PUSH_FLAGS, Chips.PULL_A, Chips.PULL_FLAGS}) {
            ClockedChip chip = Chips.at(65535, code, 41);
            step("code " + code, chip, read(65535, code), 0);
            step("code " + code, chip, read(0, 41), 0);
            chip.cycles(code == Chips.PUSH_A || code == Chips.PUSH_FLAGS ? 1 : 2);
            CHECK.same("PC of code " + code, chip.register(Chips.PC), 0);
            CHECK.same("code " + code + " is at its end", chip.register(Chips.DONE), 0);
        }
    }

    private static void jump() {
        ClockedChip chip = Chips.at(65534, Chips.JUMP, 255, 255);
        step("JUMP at 65534", chip, read(65534, Chips.JUMP), 65535);
        step("JUMP at 65534", chip, read(65535, 255), 0);
        step("JUMP to 65535", chip, read(0, 255), 65535);
        ClockedChip round = Chips.at(65535, Chips.JUMP, 0, 0);
        step("JUMP at 65535", round, read(65535, Chips.JUMP), 0);
        step("JUMP at 65535", round, read(0, 0), 1);
        step("JUMP to 0", round, read(1, 0), 0);
        ClockedChip last = Chips.at(65533, Chips.JUMP, 1, 2);
        last.cycles(2);
        step("JUMP at 65533", last, read(65535, 2), 513);
    }

    /** "push the page of PC, push its low byte, then the byte at PC is the page of the new PC". */
    private static void call() {
        call(65533, 255, 255);
        call(65534, 0, 0);
        call(65535, 0, 1);
        call(253, 0, 255);
        call(254, 1, 0);
        call(511, 2, 1);
    }

    private static void call(int at, int page, int low) {
        ClockedChip chip = Chips.at(at, Chips.CALL, 17, 3);
        String what = "CALL at " + at;
        chip.set(Chips.S, 90);
        int behind = 256 * page + low;
        step(what, chip, read(at, Chips.CALL), (at + 1) % 65536);
        step(what, chip, read((at + 1) % 65536, 17), behind);
        step(what, chip, read(346, 0), behind);
        step(what, chip, write(346, page), behind);
        step(what, chip, write(345, low), behind);
        step(what, chip, read(behind, 3), 256 * 3 + 17);
    }

    /** "pull (the low byte of PC), pull (its page), idle PC, and PC is 1 more." */
    private static void returns() {
        int[][] rows = {{255, 255, 65535, 0}, {254, 255, 65534, 65535}, {255, 0, 255, 256}, {255, 3, 1023, 1024},
            {0, 0, 0, 1}};
        for (int[] row : rows) {
            ClockedChip chip = Chips.at(600, Chips.RETURN);
            Chips.put(chip, 301, row[0], row[1]);
            chip.set(Chips.S, 44);
            chip.cycles(3);
            step("RETURN to " + row[2], chip, read(301, row[0]), 601);
            step("RETURN to " + row[2], chip, read(302, row[1]), row[2]);
            step("RETURN to " + row[2], chip, read(row[2], chip.peek(row[2])), row[3]);
        }
        ClockedChip round = Chips.at(65535, Chips.RETURN, 41);
        step("RETURN at 65535", round, read(65535, Chips.RETURN), 0);
        step("RETURN at 65535", round, read(0, 41), 0);
    }

    /** "pull (the flags), pull, pull (PC)": here PC isn't 1 more. */
    private static void returnsFromInterrupt() {
        ClockedChip chip = Chips.at(65535, Chips.RETURN_FROM_INTERRUPT, 41);
        Chips.put(chip, 301, 0, 255, 255);
        chip.set(Chips.S, 44);
        step("back at 65535", chip, read(65535, Chips.RETURN_FROM_INTERRUPT), 0);
        step("back at 65535", chip, read(0, 41), 0);
        chip.cycles(3);
        step("back to 65535", chip, read(303, 255), 65535);
        CHECK.same("back is at its end", chip.register(Chips.DONE), 0);
    }

    /** "BREAK: next (for nothing)": what is pushed lies two behind its code. */
    private static void breaks() {
        int[][] rows = {{65533, 255, 255}, {65534, 0, 0}, {65535, 0, 1}, {253, 0, 255}, {254, 1, 0}};
        for (int[] row : rows) {
            ClockedChip chip = Chips.at(row[0], Chips.BREAK, 88);
            chip.set(Chips.S, 90);
            int behind = 256 * row[1] + row[2];
            step("BREAK at " + row[0], chip, read(row[0], Chips.BREAK), (row[0] + 1) % 65536);
            step("BREAK at " + row[0], chip, read((row[0] + 1) % 65536, 88), behind);
            step("BREAK at " + row[0], chip, write(346, row[1]), behind);
            step("BREAK at " + row[0], chip, write(345, row[2]), behind);
        }
    }

    /** "An INTERRUPT begins with idle PC, idle PC": PC stays, also at the last address. */
    private static void interrupt() {
        int[][] rows = {{65534, 255, 255}, {65535, 0, 0}, {254, 0, 255}, {255, 1, 0}};
        for (int[] row : rows) {
            ClockedChip chip = Chips.at(row[0], Chips.NOTHING, 88);
            chip.pin(Chips.NMI, true);
            chip.set(Chips.S, 90);
            int behind = 256 * row[1] + row[2];
            chip.cycles(2);
            step("interrupt at " + behind, chip, read(behind, 88), behind);
            step("interrupt at " + behind, chip, read(behind, 88), behind);
            step("interrupt at " + behind, chip, write(346, row[1]), behind);
            step("interrupt at " + behind, chip, write(345, row[2]), behind);
        }
    }

    private static void reset() {
        ClockedChip chip = Chips.at(65535, 88);
        Chips.put(chip, 1020, 255, 255);
        chip.reset();
        step("RESET at 65535", chip, read(65535, 88), 65535);
        step("RESET at 65535", chip, read(65535, 88), 65535);
        chip.cycles(3);
        step("RESET's first byte", chip, read(65532, 255), 65535);
        step("RESET's second byte", chip, read(65533, 255), 65535);
        step("the instruction at 65535", chip, read(65535, 88), 0);
    }

    private static void jam() {
        ClockedChip chip = Chips.at(65535, Chips.JAM);
        step("JAM at 65535", chip, read(65535, Chips.JAM), 0);
        step("JAM at 65535", chip, read(65535, Chips.JAM), 0);
        step("JAM at 65535", chip, read(65535, Chips.JAM), 0);
    }

    private static void branchNotTaken() {
        int never = Chips.code(21, 0);
        int[][] rows = {{65533, 65535}, {65534, 0}, {65535, 1}, {253, 255}, {254, 256}};
        for (int[] row : rows) {
            ClockedChip chip = Chips.at(row[0], never, 127);
            step("not taken at " + row[0], chip, read(row[0], never), (row[0] + 1) % 65536);
            step("not taken at " + row[0], chip, read((row[0] + 1) % 65536, 127), row[1]);
            CHECK.same("not taken at " + row[0] + " is at its end", chip.register(Chips.DONE), 0);
        }
    }

    /** Runs a branch that is taken: half is -1 where no second idle cycle is due. */
    private static void branch(int at, int d, int half, int to) {
        ClockedChip chip = Chips.at(at, ALWAYS, d);
        String what = "branch at " + at + ", d " + d;
        int second = (at + 1) % 65536;
        int behind = (at + 2) % 65536;
        step(what, chip, read(at, ALWAYS), second);
        step(what, chip, read(second, d & 255), behind);
        if (half < 0) {
            step(what, chip, read(behind, chip.peek(behind)), to);
        } else {
            step(what, chip, read(behind, chip.peek(behind)), behind);
            step(what, chip, read(half, chip.peek(half)), to);
        }
        CHECK.same(what + " is at its end", chip.register(Chips.DONE), 0);
    }

    /** "next (a number d -128 .. 127)". */
    private static void branchDistances() {
        for (int d = 0; d < 128; d++) {
            branch(512, d, -1, 514 + d);
        }
        for (int d = 128; d < 256; d++) {
            branch(764, d, -1, 766 + d - 256);
        }
    }

    private static void branchOnTheSamePage() {
        branch(600, 0, -1, 602);
        branch(600, 166, -1, 512);
        branch(638, 127, -1, 767);
        branch(638, 128, -1, 512);
        branch(65406, 127, -1, 65535);
        branch(126, 128, -1, 0);
    }

    /** "if its page is another one, idle at the old page with the new low byte." */
    private static void branchToAnotherPage() {
        branch(600, 165, 767, 511);
        branch(639, 127, 512, 768);
        branch(640, 127, 513, 769);
        branch(637, 128, 767, 511);
        branch(512, 253, 767, 511);
        branch(512, 128, 642, 386);
        branch(764, 2, 512, 768);
    }

    /** The old page is that of PC behind the branch, not that of its code. */
    private static void branchFromAPagesEnd() {
        branch(766, 0, -1, 768);
        branch(766, 255, 1023, 767);
        branch(766, 254, 1022, 766);
        branch(767, 255, -1, 768);
        branch(767, 254, 1023, 767);
        branch(765, 0, -1, 767);
        branch(765, 1, 512, 768);
    }

    /** "the new PC is PC + d": in sixteen bits, where page 0 and page 255 are other ones. */
    private static void branchBeyondSixteenBits() {
        branch(65533, 0, -1, 65535);
        branch(65533, 1, 65280, 0);
        branch(65533, 127, 65406, 126);
        branch(65534, 0, -1, 0);
        branch(65534, 127, -1, 127);
        branch(65534, 255, 255, 65535);
        branch(65534, 128, 128, 65408);
        branch(65535, 254, 255, 65535);
        branch(65535, 255, -1, 0);
        branch(0, 253, 255, 65535);
        branch(0, 254, -1, 0);
        branch(0, 128, 130, 65410);
    }
}
