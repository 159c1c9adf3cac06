import java.util.ArrayList;
import java.util.List;

/**
 * The document's cycles written another way: each instruction in one go, with the cycles that it must take.
 * Pins may turn only between instructions, so it needs no state within one.
 */
final class WholeInstructions {
    final int[] memory = new int[1024];
    final List<Integer> cycles = new ArrayList<>();
    int a;
    int x;
    int y;
    int s;
    int pc;
    int p;
    boolean jammed;
    boolean irq;
    boolean nmiWanted;
    boolean interruptNext;

    private int read(int address) {
        int b = memory[address % 1024];
        cycles.add(512 * address + b);
        return b;
    }

    private void write(int address, int b) {
        memory[address % 1024] = b;
        cycles.add(512 * address + 256 + b);
    }

    private int next() {
        int b = read(pc);
        pc = (pc + 1) % 65536;
        return b;
    }

    private void push(int b) {
        write(256 + s, b);
        s = (s + 255) % 256;
    }

    private int pull() {
        s = (s + 1) % 256;
        return read(256 + s);
    }

    private void flag(int which, boolean on) {
        p = p / which % 2 == 1 ? p - which : p;
        p = on ? p + which : p;
    }

    private int nz(int b) {
        int low = Math.floorMod(b, 256);
        flag(128, low > 127);
        flag(2, low == 0);
        return low;
    }

    /** Runs the next instruction or interrupt whole and leaves its cycles in the list. */
    void run() {
        cycles.clear();
        if (interruptNext) {
            read(pc);
            read(pc);
            interrupt(32);
        } else {
            int code = next();
            instruction(code / 8, code % 8);
        }
        interruptNext = nmiWanted || irq && p / 4 % 2 == 0;
    }

    /** RESET whole. */
    void runReset() {
        cycles.clear();
        nmiWanted = false;
        jammed = false;
        read(pc);
        read(pc);
        for (int i = 0; i < 3; i++) {
            read(256 + s);
            s = (s + 255) % 256;
        }
        flag(4, true);
        int low = read(65532);
        pc = low + 256 * read(65533);
        interruptNext = false;
    }

    private void interrupt(int more) {
        push(pc / 256);
        push(pc % 256);
        push(p + more);
        flag(4, true);
        int vector = nmiWanted ? 65530 : 65534;
        nmiWanted = false;
        int low = read(vector);
        pc = low + 256 * read(vector + 1);
    }

    private void instruction(int operation, int mode) {
        if (mode == 7 && operation < 23) {
            withoutOperand(operation);
        } else if (mode == 7 || operation == 14 || operation == 15 || operation > 25) {
            jammed = true;
        } else if (operation < 14) {
            withOperand(operation, mode);
        } else if (operation < 24 && mode == 0) {
            branch(operation);
        } else if (operation >= 24 && mode == 3) {
            farJump(operation == 25);
        } else {
            jammed = true;
        }
    }

    private void withOperand(int operation, int mode) {
        boolean changes = operation >= 10;
        boolean stores = operation == 1;
        if (stores && mode == 0 || changes && (mode == 0 || mode > 4)) {
            jammed = true;
            return;
        }
        int at = operandAddress(mode, changes || stores);
        if (stores) {
            write(at, a);
        } else if (changes) {
            int b = read(at);
            write(at, b);
            write(at, change(operation, b));
        } else {
            operate(operation, read(at));
        }
    }

    private int operandAddress(int mode, boolean always) {
        if (mode == 0) {
            int at = pc;
            pc = (pc + 1) % 65536;
            return at;
        }
        int z = next();
        if (mode == 1) {
            return z;
        }
        if (mode == 2) {
            read(z);
            return (z + x) % 256;
        }
        if (mode == 3) {
            return z + 256 * next();
        }
        if (mode == 4) {
            return indexed(z, next(), x, always);
        }
        if (mode == 5) {
            read(z);
            int low = read((z + x) % 256);
            return low + 256 * read((z + x + 1) % 256);
        }
        int low = read(z);
        return indexed(low, read((z + 1) % 256), y, always);
    }

    private int indexed(int low, int page, int index, boolean always) {
        int at = (low + 256 * page + index) % 65536;
        if (always || at / 256 != page) {
            read(256 * page + at % 256);
        }
        return at;
    }

    private int change(int operation, int b) {
        if (operation == 10) {
            return nz(b + 1);
        }
        if (operation == 11) {
            return nz(b - 1);
        }
        flag(1, operation == 12 ? b > 127 : b % 2 == 1);
        return nz(operation == 12 ? b * 2 : b / 2);
    }

    private void operate(int operation, int b) {
        switch (operation) {
            case 0: a = nz(b); break;
            case 2: add(b); break;
            case 3: subtract(b); break;
            case 4: a = nz(a & b); break;
            case 5: a = nz(a | b); break;
            case 6: a = nz(a ^ b); break;
            case 7: flag(1, a >= b); nz(a - b); break;
            case 8: x = nz(b); break;
            default: y = nz(b); break;
        }
    }

    private int binaryAdd(int b) {
        int sum = a + b + p % 2;
        flag(64, a / 128 == b / 128 && sum % 256 / 128 != b / 128);
        flag(1, sum > 255);
        return nz(sum);
    }

    private void add(int b) {
        int oldP = p;
        int sum = binaryAdd(b);
        if (oldP / 8 % 2 == 1) {
            int l = a % 16 + b % 16 + oldP % 2;
            l += l > 9 ? 6 : 0;
            int h = a / 16 + b / 16 + (l > 15 ? 1 : 0);
            flag(128, h / 8 % 2 == 1);
            flag(64, a / 128 == b / 128 && h / 8 % 2 != b / 128);
            h += h > 9 ? 6 : 0;
            flag(1, h > 15);
            sum = h % 16 * 16 + l % 16;
        }
        a = sum;
    }

    private void subtract(int b) {
        int oldP = p;
        int sum = binaryAdd(255 - b);
        if (oldP / 8 % 2 == 1) {
            int l = a % 16 - b % 16 - 1 + oldP % 2;
            int h = a / 16 - b / 16;
            if (l < 0) {
                l -= 6;
                h--;
            }
            h -= h < 0 ? 6 : 0;
            sum = Math.floorMod(h, 16) * 16 + Math.floorMod(l, 16);
        }
        a = sum;
    }

    private void branch(int operation) {
        int d = (byte) next();
        int which = new int[] {128, 64, 1, 2}[operation / 2 - 8];
        if (p / which % 2 == operation % 2) {
            read(pc);
            int to = Math.floorMod(pc + d, 65536);
            if (to / 256 != pc / 256) {
                read(pc / 256 * 256 + to % 256);
            }
            pc = to;
        }
    }

    private void farJump(boolean call) {
        int z = next();
        if (call) {
            read(256 + s);
            push(pc / 256);
            push(pc % 256);
        }
        pc = z + 256 * read(pc);
    }

    private void withoutOperand(int operation) {
        if (operation == 22) {
            next();
            interrupt(48);
            return;
        }
        read(pc);
        if (operation < 16) {
            onRegisters(operation);
        } else if (operation == 16 || operation == 18) {
            push(operation == 16 ? a : p + 32);
        } else {
            read(256 + s);
            pulls(operation);
        }
    }

    private void pulls(int operation) {
        if (operation == 17) {
            a = nz(pull());
            return;
        }
        if (operation != 20) {
            p = pull() & 207;
        }
        if (operation != 19) {
            int low = pull();
            pc = low + 256 * pull();
        }
        if (operation == 20) {
            next();
        }
    }

    private void onRegisters(int operation) {
        switch (operation) {
            case 1: x = nz(x + 1); break;
            case 2: x = nz(x - 1); break;
            case 3: y = nz(y + 1); break;
            case 4: y = nz(y - 1); break;
            case 5: x = nz(a); break;
            case 6: a = nz(x); break;
            case 7: y = nz(a); break;
            case 8: a = nz(y); break;
            case 9: case 10: flag(1, operation == 10); break;
            case 11: case 12: flag(4, operation == 12); break;
            case 13: case 14: flag(8, operation == 14); break;
            case 15: s = x; break;
            default: break;
        }
    }
}
