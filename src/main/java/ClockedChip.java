/** An eight-bit processor that is run one clock cycle at a time. */
public final class ClockedChip {
    private static final int MEMORY_SIZE = 1024;
    private static final int MEMORY_MASK = 1023;
    private static final int BYTE_MASK = 255;
    private static final int WORD_MASK = 65535;
    private static final int PAGE_MASK = 65280;
    private static final int PAGE_SIZE = 256;
    private static final int STACK_PAGE = 256;

    private static final int FLAG_N = 128;
    private static final int FLAG_V = 64;
    private static final int FLAG_D = 8;
    private static final int FLAG_I = 4;
    private static final int FLAG_Z = 2;
    private static final int FLAG_C = 1;
    private static final int ALL_FLAGS = 207;
    private static final int ALWAYS_IN_P = 32;
    private static final int BREAK_IN_P = 16;

    private static final int NMI = 0;
    private static final int IRQ = 1;
    private static final int READY = 2;
    private static final int SO = 3;
    private static final int PIN_COUNT = 4;

    private static final int NMI_VECTOR = 65530;
    private static final int RESET_VECTOR = 65532;
    private static final int IRQ_VECTOR = 65534;
    private static final int JAM_ADDRESS = 65535;
    private static final int MOST_CYCLES = 200;
    private static final int LAST_TO_ASK = 7;
    private static final int LAST_TO_SET = 5;

    private static final int MODE_IMMEDIATE = 0;
    private static final int MODE_ZERO = 1;
    private static final int MODE_ZERO_AND_X = 2;
    private static final int MODE_FAR = 3;
    private static final int MODE_FAR_AND_X = 4;
    private static final int MODE_THROUGH_X = 5;
    private static final int MODE_WITHOUT_OPERAND = 7;

    private static final int LOAD_A = 0;
    private static final int STORE_A = 1;
    private static final int ADD = 2;
    private static final int SUBTRACT = 3;
    private static final int AND = 4;
    private static final int OR = 5;
    private static final int XOR = 6;
    private static final int COMPARE = 7;
    private static final int LOAD_X = 8;
    private static final int LOAD_Y = 9;
    private static final int MORE = 10;
    private static final int LESS = 11;
    private static final int LEFT = 12;
    private static final int RIGHT = 13;
    private static final int FIRST_BRANCH = 16;
    private static final int LAST_BRANCH = 23;
    private static final int JUMP_FAR = 24;
    private static final int CALL_FAR = 25;

    private static final int LAST_ON_REGISTERS = 15;
    private static final int PUSH_A = 16;
    private static final int PULL_A = 17;
    private static final int PUSH_FLAGS = 18;
    private static final int PULL_FLAGS = 19;
    private static final int RETURN = 20;
    private static final int RETURN_FROM_INTERRUPT = 21;
    private static final int BREAK = 22;

    /** Where the byte of a step is: each step holds one of these. */
    private static final int AT_PC = 0;
    private static final int AT_AIM = 1;
    private static final int AT_STACK = 2;
    private static final int AT_PULL = 3;
    private static final int AT_VECTOR = 4;
    private static final int AT_RESET_VECTOR = 5;
    private static final int AT_JAM = 6;

    private final int[] memory;
    private final boolean[] pins;
    private final Registers registers;
    private boolean nmiWanted;

    private Step step;
    private Kind kind;
    private int operation;
    private int mode;
    private int done;
    private int ended;

    /** The address that a step at AT_AIM uses; the step before has set it. */
    private int aim;
    /** The operand's address or a branch's new PC, while a cycle before it is due. */
    private int target;
    /** A byte that an earlier cycle has read and a later one needs. */
    private int held;

    public ClockedChip() {
        memory = new int[MEMORY_SIZE];
        pins = new boolean[PIN_COUNT];
        pins[READY] = true;
        registers = new Registers();
        step = Step.FETCH;
        kind = Kind.NOT_READ_YET;
    }

    public int poke(int address, int v) {
        int before = memory[address & MEMORY_MASK];
        memory[address & MEMORY_MASK] = v & BYTE_MASK;
        return before;
    }

    public int peek(int address) {
        return memory[address & MEMORY_MASK];
    }

    public int cycle() {
        return runCycle();
    }

    public int cycles(int n) throws IllegalArgumentException {
        if (n < 0 || n > MOST_CYCLES) {
            throw new IllegalArgumentException();
        }
        int before = ended;
        for (int i = 0; i < n; i++) {
            runCycle();
        }
        return ended - before;
    }

    public boolean pin(int pin, boolean on) throws IndexOutOfBoundsException {
        if (pin < 0 || pin >= PIN_COUNT) {
            throw new IndexOutOfBoundsException();
        }
        boolean before = pins[pin];
        pins[pin] = on;
        if (on && !before) {
            pinWentOn(pin);
        }
        return before;
    }

    public void reset() {
        nmiWanted = false;
        begin(Kind.RESET, Step.RESET_IDLE);
    }

    public int register(int which) throws IndexOutOfBoundsException {
        if (which < 0 || which > LAST_TO_ASK) {
            throw new IndexOutOfBoundsException();
        }
        return switch (which) {
            case 0 -> registers.a;
            case 1 -> registers.x;
            case 2 -> registers.y;
            case 3 -> registers.s;
            case 4 -> registers.pc;
            case 5 -> registers.p();
            case 6 -> step == Step.JAMMED ? 1 : 0;
            default -> done;
        };
    }

    public void set(int which, int v) throws IndexOutOfBoundsException, IllegalStateException {
        if (which < 0 || which > LAST_TO_SET) {
            throw new IndexOutOfBoundsException();
        }
        if (step != Step.FETCH) {
            throw new IllegalStateException();
        }
        switch (which) {
            case 0 -> registers.a = v & BYTE_MASK;
            case 1 -> registers.x = v & BYTE_MASK;
            case 2 -> registers.y = v & BYTE_MASK;
            case 3 -> registers.s = v & BYTE_MASK;
            case 4 -> registers.pc = v & WORD_MASK;
            default -> registers.takeFlags(v);
        }
    }

    private void pinWentOn(int pin) {
        if (pin == NMI) {
            nmiWanted = true;
        } else if (pin == SO) {
            registers.put(FLAG_V, true);
        }
    }

    // ---- one cycle ----

    private int runCycle() {
        int address = addressOfStep();
        if (step.writes) {
            int out = byteToWrite();
            memory[address & MEMORY_MASK] = out;
            done++;
            afterWrite();
            return 512 * address + 256 + out;
        }
        int in = memory[address & MEMORY_MASK];
        if (pins[READY]) {
            done++;
            afterRead(in);
        }
        return 512 * address + in;
    }

    private int addressOfStep() {
        return switch (step.place) {
            case AT_AIM -> aim;
            case AT_STACK -> STACK_PAGE + registers.s;
            case AT_PULL -> STACK_PAGE + ((registers.s + 1) & BYTE_MASK);
            case AT_VECTOR -> nmiWanted ? NMI_VECTOR : IRQ_VECTOR;
            case AT_RESET_VECTOR -> RESET_VECTOR;
            case AT_JAM -> JAM_ADDRESS;
            default -> registers.pc;
        };
    }

    private int byteToWrite() {
        return switch (step) {
            case STORE -> registers.a;
            case CHANGE_SAME -> held;
            case CHANGE_NEW -> registers.changed(operation, held);
            case PUSH_REGISTER -> operation == PUSH_A ? registers.a : registers.p();
            case PUSH_PAGE -> registers.pc >> 8;
            case PUSH_LOW -> registers.pc & BYTE_MASK;
            case PUSH_P -> kind == Kind.BREAK ? registers.p() + BREAK_IN_P : registers.p();
            default -> 0;
        };
    }

    private void afterWrite() {
        switch (step) {
            case CHANGE_SAME -> step = Step.CHANGE_NEW;
            case CHANGE_NEW -> {
                registers.flagsOfChange(operation, held);
                end();
            }
            case PUSH_REGISTER -> {
                registers.moveStack(-1);
                end();
            }
            case PUSH_PAGE -> {
                registers.moveStack(-1);
                step = Step.PUSH_LOW;
            }
            case PUSH_LOW -> {
                registers.moveStack(-1);
                step = kind == Kind.CALL ? Step.FAR_PAGE : Step.PUSH_P;
            }
            case PUSH_P -> {
                registers.moveStack(-1);
                registers.put(FLAG_I, true);
                step = Step.VECTOR_LOW;
            }
            default -> end();
        }
    }

    private void afterRead(int in) {
        switch (step) {
            case FETCH -> afterFetch(in);
            case IMMEDIATE -> {
                registers.nextPc();
                registers.operate(operation, in);
                end();
            }
            case ZERO_BYTE -> afterZeroByte(in);
            case ZERO_IDLE -> afterZeroIdle();
            case POINTER_LOW -> afterPointerLow(in);
            case POINTER_PAGE -> afterPointerPage(in);
            case FAR_LOW -> afterFarLow(in);
            case FAR_PAGE -> afterFarPage(in);
            case HALF_IDLE -> accessOperandAt(target);
            case OPERAND -> {
                registers.operate(operation, in);
                end();
            }
            case CHANGE_READ -> afterChangeRead(in);
            case BRANCH_DISTANCE -> afterBranchDistance(in);
            case BRANCH_IDLE -> afterBranchIdle();
            case BRANCH_OTHER_PAGE -> goTo(target);
            case BREAK_NEXT -> afterBreakNext();
            case PC_IDLE -> afterPcIdle();
            case JAMMED -> done = 1;
            default -> afterStackOrVectorRead(in);
        }
    }

    private void afterStackOrVectorRead(int in) {
        switch (step) {
            case STACK_IDLE -> step = stepAfterStackIdle();
            case PULL_BYTE -> afterPullByte(in);
            case PULL_LOW -> afterPullLow(in);
            case PULL_PAGE -> afterPullPage(in);
            case RETURN_IDLE -> goTo(registers.pc + 1);
            case INTERRUPT_IDLE -> step = done < 2 ? Step.INTERRUPT_IDLE : Step.PUSH_PAGE;
            case VECTOR_LOW -> afterVectorLow(in);
            case VECTOR_PAGE -> goTo(held + PAGE_SIZE * in);
            case RESET_IDLE -> step = done < 2 ? Step.RESET_IDLE : Step.RESET_STACK;
            case RESET_STACK -> afterResetStack();
            default -> afterResetLow(in);
        }
    }

    // ---- beginnings and ends ----

    private void begin(Kind newKind, Step firstStep) {
        kind = newKind;
        step = firstStep;
        done = 0;
    }

    private void end() {
        ended++;
        boolean irqWanted = pins[IRQ] && !registers.has(FLAG_I);
        if (nmiWanted || irqWanted) {
            begin(Kind.INTERRUPT, Step.INTERRUPT_IDLE);
        } else {
            begin(Kind.NOT_READ_YET, Step.FETCH);
        }
    }

    private void goTo(int newPc) {
        registers.pc = newPc & WORD_MASK;
        end();
    }

    private void afterFetch(int code) {
        registers.nextPc();
        operation = code >> 3;
        mode = code & 7;
        kind = mode == MODE_WITHOUT_OPERAND ? kindWithoutOperand() : kindWithOperand();
        step = secondStep();
    }

    private Kind kindWithOperand() {
        if (operation == STORE_A) {
            return mode == MODE_IMMEDIATE ? Kind.JAM : Kind.STORE;
        }
        if (operation <= LOAD_Y) {
            return Kind.READ;
        }
        if (operation <= RIGHT) {
            return mode >= MODE_ZERO && mode <= MODE_FAR_AND_X ? Kind.CHANGE : Kind.JAM;
        }
        if (mode == MODE_IMMEDIATE && operation >= FIRST_BRANCH && operation <= LAST_BRANCH) {
            return Kind.BRANCH;
        }
        if (mode == MODE_FAR && operation == JUMP_FAR) {
            return Kind.JUMP;
        }
        return mode == MODE_FAR && operation == CALL_FAR ? Kind.CALL : Kind.JAM;
    }

    private Kind kindWithoutOperand() {
        if (operation <= LAST_ON_REGISTERS) {
            return Kind.ON_REGISTERS;
        }
        return switch (operation) {
            case PUSH_A, PUSH_FLAGS -> Kind.PUSH;
            case PULL_A, PULL_FLAGS -> Kind.PULL;
            case RETURN -> Kind.RETURN;
            case RETURN_FROM_INTERRUPT -> Kind.RETURN_FROM_INTERRUPT;
            case BREAK -> Kind.BREAK;
            default -> Kind.JAM;
        };
    }

    private Step secondStep() {
        return switch (kind) {
            case READ, STORE, CHANGE -> secondStepByMode();
            case BRANCH -> Step.BRANCH_DISTANCE;
            case JUMP, CALL -> Step.FAR_LOW;
            case BREAK -> Step.BREAK_NEXT;
            case JAM -> Step.JAMMED;
            default -> Step.PC_IDLE;
        };
    }

    private Step secondStepByMode() {
        return switch (mode) {
            case MODE_IMMEDIATE -> Step.IMMEDIATE;
            case MODE_FAR, MODE_FAR_AND_X -> Step.FAR_LOW;
            default -> Step.ZERO_BYTE;
        };
    }

    // ---- the operand's address ----

    private void afterZeroByte(int in) {
        registers.nextPc();
        if (mode == MODE_ZERO) {
            accessOperandAt(in);
        } else {
            aim = in;
            step = mode == MODE_ZERO_AND_X || mode == MODE_THROUGH_X ? Step.ZERO_IDLE : Step.POINTER_LOW;
        }
    }

    private void afterZeroIdle() {
        int indexed = (aim + registers.x) & BYTE_MASK;
        if (mode == MODE_ZERO_AND_X) {
            accessOperandAt(indexed);
        } else {
            aim = indexed;
            step = Step.POINTER_LOW;
        }
    }

    private void afterPointerLow(int in) {
        held = in;
        aim = (aim + 1) & BYTE_MASK;
        step = Step.POINTER_PAGE;
    }

    private void afterPointerPage(int page) {
        if (mode == MODE_THROUGH_X) {
            accessOperandAt(held + PAGE_SIZE * page);
        } else {
            accessIndexed(page, registers.y);
        }
    }

    private void afterFarLow(int in) {
        registers.nextPc();
        held = in;
        step = kind == Kind.CALL ? Step.STACK_IDLE : Step.FAR_PAGE;
    }

    private void afterFarPage(int page) {
        if (kind == Kind.JUMP || kind == Kind.CALL) {
            goTo(held + PAGE_SIZE * page);
            return;
        }
        registers.nextPc();
        if (mode == MODE_FAR) {
            accessOperandAt(held + PAGE_SIZE * page);
        } else {
            accessIndexed(page, registers.x);
        }
    }

    private void accessIndexed(int page, int index) {
        int address = (held + PAGE_SIZE * page + index) & WORD_MASK;
        int half = PAGE_SIZE * page + (address & BYTE_MASK);
        if (kind == Kind.READ && address == half) {
            accessOperandAt(address);
        } else {
            target = address;
            aim = half;
            step = Step.HALF_IDLE;
        }
    }

    private void accessOperandAt(int address) {
        aim = address;
        step = switch (kind) {
            case STORE -> Step.STORE;
            case CHANGE -> Step.CHANGE_READ;
            default -> Step.OPERAND;
        };
    }

    private void afterChangeRead(int in) {
        held = in;
        step = Step.CHANGE_SAME;
    }

    // ---- branches, stack, vectors ----

    private void afterBranchDistance(int in) {
        registers.nextPc();
        if (registers.takesBranch(operation)) {
            int distance = in < 128 ? in : in - 256;
            target = (registers.pc + distance) & WORD_MASK;
            step = Step.BRANCH_IDLE;
        } else {
            end();
        }
    }

    private void afterBranchIdle() {
        int onOldPage = (registers.pc & PAGE_MASK) + (target & BYTE_MASK);
        if (onOldPage == target) {
            goTo(target);
        } else {
            aim = onOldPage;
            step = Step.BRANCH_OTHER_PAGE;
        }
    }

    private void afterBreakNext() {
        registers.nextPc();
        step = Step.PUSH_PAGE;
    }

    private void afterPcIdle() {
        if (kind == Kind.ON_REGISTERS) {
            registers.operateAlone(operation);
            end();
        } else {
            step = kind == Kind.PUSH ? Step.PUSH_REGISTER : Step.STACK_IDLE;
        }
    }

    private Step stepAfterStackIdle() {
        return switch (kind) {
            case CALL -> Step.PUSH_PAGE;
            case RETURN -> Step.PULL_LOW;
            default -> Step.PULL_BYTE;
        };
    }

    private void afterPullByte(int in) {
        registers.moveStack(1);
        if (kind == Kind.RETURN_FROM_INTERRUPT) {
            registers.takeFlags(in);
            step = Step.PULL_LOW;
            return;
        }
        if (operation == PULL_A) {
            registers.loadA(in);
        } else {
            registers.takeFlags(in);
        }
        end();
    }

    private void afterPullLow(int in) {
        registers.moveStack(1);
        held = in;
        step = Step.PULL_PAGE;
    }

    private void afterPullPage(int page) {
        registers.moveStack(1);
        registers.pc = held + PAGE_SIZE * page;
        if (kind == Kind.RETURN) {
            step = Step.RETURN_IDLE;
        } else {
            end();
        }
    }

    private void afterVectorLow(int in) {
        held = in;
        aim = addressOfStep() + 1;
        nmiWanted = false;
        step = Step.VECTOR_PAGE;
    }

    private void afterResetStack() {
        registers.moveStack(-1);
        step = done < 5 ? Step.RESET_STACK : Step.RESET_LOW;
    }

    private void afterResetLow(int in) {
        registers.put(FLAG_I, true);
        held = in;
        aim = RESET_VECTOR + 1;
        step = Step.VECTOR_PAGE;
    }

    /** What the cycles now running belong to. */
    private enum Kind {
        READ, STORE, CHANGE, BRANCH, JUMP, CALL, ON_REGISTERS, PUSH, PULL,
        RETURN, RETURN_FROM_INTERRUPT, BREAK, JAM, INTERRUPT, RESET, NOT_READ_YET
    }

    /** What the next cycle does: where its byte is, and whether it is written. */
    private enum Step {
        FETCH(AT_PC, false),
        IMMEDIATE(AT_PC, false),
        ZERO_BYTE(AT_PC, false),
        ZERO_IDLE(AT_AIM, false),
        POINTER_LOW(AT_AIM, false),
        POINTER_PAGE(AT_AIM, false),
        FAR_LOW(AT_PC, false),
        FAR_PAGE(AT_PC, false),
        HALF_IDLE(AT_AIM, false),
        OPERAND(AT_AIM, false),
        STORE(AT_AIM, true),
        CHANGE_READ(AT_AIM, false),
        CHANGE_SAME(AT_AIM, true),
        CHANGE_NEW(AT_AIM, true),
        BRANCH_DISTANCE(AT_PC, false),
        BRANCH_IDLE(AT_PC, false),
        BRANCH_OTHER_PAGE(AT_AIM, false),
        BREAK_NEXT(AT_PC, false),
        PC_IDLE(AT_PC, false),
        STACK_IDLE(AT_STACK, false),
        PUSH_REGISTER(AT_STACK, true),
        PUSH_PAGE(AT_STACK, true),
        PUSH_LOW(AT_STACK, true),
        PUSH_P(AT_STACK, true),
        PULL_BYTE(AT_PULL, false),
        PULL_LOW(AT_PULL, false),
        PULL_PAGE(AT_PULL, false),
        RETURN_IDLE(AT_PC, false),
        INTERRUPT_IDLE(AT_PC, false),
        VECTOR_LOW(AT_VECTOR, false),
        VECTOR_PAGE(AT_AIM, false),
        RESET_IDLE(AT_PC, false),
        RESET_STACK(AT_STACK, false),
        RESET_LOW(AT_RESET_VECTOR, false),
        JAMMED(AT_JAM, false);

        private final int place;
        private final boolean writes;

        Step(int place, boolean writes) {
            this.place = place;
            this.writes = writes;
        }
    }

    /** The registers, and what the operations make of them. */
    private static final class Registers {
        private int a;
        private int x;
        private int y;
        private int s;
        private int pc;
        private int flags;

        private int p() {
            return flags + ALWAYS_IN_P;
        }

        private void takeFlags(int v) {
            flags = v & ALL_FLAGS;
        }

        private boolean has(int flag) {
            return (flags & flag) != 0;
        }

        private void put(int flag, boolean on) {
            flags = on ? flags | flag : flags & ~flag;
        }

        private void putNz(int b) {
            int others = flags & ~(FLAG_N | FLAG_Z);
            flags = others | (b & FLAG_N) | (b == 0 ? FLAG_Z : 0);
        }

        private int carry() {
            return flags & FLAG_C;
        }

        private void nextPc() {
            pc = (pc + 1) & WORD_MASK;
        }

        private void moveStack(int by) {
            s = (s + by) & BYTE_MASK;
        }

        private void loadA(int b) {
            a = b & BYTE_MASK;
            putNz(a);
        }

        private void loadX(int b) {
            x = b & BYTE_MASK;
            putNz(x);
        }

        private void loadY(int b) {
            y = b & BYTE_MASK;
            putNz(y);
        }

        private boolean takesBranch(int operation) {
            boolean ifOne = (operation & 1) == 1;
            return switch ((operation - FIRST_BRANCH) >> 1) {
                case 0 -> has(FLAG_N) == ifOne;
                case 1 -> has(FLAG_V) == ifOne;
                case 2 -> has(FLAG_C) == ifOne;
                default -> has(FLAG_Z) == ifOne;
            };
        }

        private void operate(int operation, int b) {
            switch (operation) {
                case LOAD_A -> loadA(b);
                case ADD -> add(b);
                case SUBTRACT -> subtract(b);
                case AND -> loadA(a & b);
                case OR -> loadA(a | b);
                case XOR -> loadA(a ^ b);
                case COMPARE -> compare(b);
                case LOAD_X -> loadX(b);
                default -> loadY(b);
            }
        }

        private void operateAlone(int operation) {
            switch (operation) {
                case 1 -> loadX(x + 1);
                case 2 -> loadX(x - 1);
                case 3 -> loadY(y + 1);
                case 4 -> loadY(y - 1);
                case 5 -> loadX(a);
                case 6 -> loadA(x);
                case 7 -> loadY(a);
                case 8 -> loadA(y);
                case 9 -> put(FLAG_C, false);
                case 10 -> put(FLAG_C, true);
                case 11 -> put(FLAG_I, false);
                case 12 -> put(FLAG_I, true);
                case 13 -> put(FLAG_D, false);
                case 14 -> put(FLAG_D, true);
                case 15 -> s = x;
                default -> { }
            }
        }

        private int changed(int operation, int b) {
            return switch (operation) {
                case MORE -> (b + 1) & BYTE_MASK;
                case LESS -> (b - 1) & BYTE_MASK;
                case LEFT -> (b << 1) & BYTE_MASK;
                default -> b >> 1;
            };
        }

        private void flagsOfChange(int operation, int b) {
            if (operation == LEFT) {
                put(FLAG_C, b >= 128);
            } else if (operation == RIGHT) {
                put(FLAG_C, (b & 1) == 1);
            }
            putNz(changed(operation, b));
        }

        private void compare(int b) {
            put(FLAG_C, a >= b);
            putNz((a - b) & BYTE_MASK);
        }

        private void add(int b) {
            if (has(FLAG_D)) {
                addDecimal(b);
            } else {
                int sum = a + b + carry();
                flagsOfSum(b, sum);
                a = sum & BYTE_MASK;
            }
        }

        private void flagsOfSum(int b, int sum) {
            put(FLAG_C, sum > 255);
            put(FLAG_V, differsInSign(b, (sum & 128) != 0));
            putNz(sum & BYTE_MASK);
        }

        /** Whether A and b have one sign and what comes has the other. */
        private boolean differsInSign(int b, boolean negative) {
            boolean signOfA = a >= 128;
            return signOfA == b >= 128 && signOfA != negative;
        }

        private void addDecimal(int b) {
            int low = (a & 15) + (b & 15) + carry();
            if (low > 9) {
                low += 6;
            }
            int high = (a >> 4) + (b >> 4) + (low > 15 ? 1 : 0);
            boolean negative = (high & 8) != 0;
            put(FLAG_Z, ((a + b + carry()) & BYTE_MASK) == 0);
            put(FLAG_N, negative);
            put(FLAG_V, differsInSign(b, negative));
            if (high > 9) {
                high += 6;
            }
            put(FLAG_C, high > 15);
            a = 16 * (high & 15) + (low & 15);
        }

        private void subtract(int b) {
            int sum = a + (255 - b) + carry();
            int result = has(FLAG_D) ? decimalDifference(b) : sum & BYTE_MASK;
            flagsOfSum(255 - b, sum);
            a = result;
        }

        private int decimalDifference(int b) {
            int low = (a & 15) - (b & 15) - (1 - carry());
            if (low < 0) {
                low -= 6;
            }
            int high = (a >> 4) - (b >> 4) - (low < 0 ? 1 : 0);
            if (high < 0) {
                high -= 6;
            }
            return 16 * (high & 15) + (low & 15);
        }
    }
}
