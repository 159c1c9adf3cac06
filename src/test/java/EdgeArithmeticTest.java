/** What comes at the edges of a byte and of its halves. */
public final class EdgeArithmeticTest {
    private static final Check CHECK = new Check();
    private static final int N = 128;
    private static final int V = 64;
    private static final int D = 8;
    private static final int I = 4;
    private static final int Z = 2;
    private static final int C = 1;

    public static void main(String[] args) {
        nAndZOfWhatIsLoaded();
        nAndZOfWhatIsPulled();
        nAndZOfTransfers();
        oneMoreAndOneLess();
        changesOfEveryByte();
        comparesOfEveryByte();
        addAbove255();
        addBit7();
        subtractBelow0();
        decimalLowHalves();
        decimalHighHalves();
        decimalBothHalves();
        decimalAddFlags();
        decimalSubtractLowHalves();
        decimalSubtractHighHalves();
        decimalSubtractFlags();
        dIsHeededByAddAndSubtractAlone();
        everyDecimalByte();
        CHECK.finish();
    }

    private static int nz(int b) {
        return (b > 127 ? N : 0) + (b == 0 ? Z : 0);
    }

    /** Flags that must come, whichever they were before: both runs begin with other ones. */
    private static void due(String what, int operation, int a, int b, int p, int newA, int newP) {
        int left = D | I;
        for (int others = 0; others < 2; others++) {
            int before = p + (others == 0 ? 0 : N + V + Z + I);
            ClockedChip chip = Chips.at(0, Chips.code(operation, 0), b);
            chip.set(Chips.A, a);
            chip.set(Chips.P, before);
            chip.cycles(2);
            String told = what + " of " + a + ", " + b + ", P " + before;
            CHECK.same(told + ": A", chip.register(Chips.A), newA);
            CHECK.same(told + ": P", chip.register(Chips.P), 32 + (before & left) + newP);
        }
    }

    /** "N is its bit 7, Z whether it is 0"; "LOAD: N and Z of the byte." V and C are left. */
    private static void nAndZOfWhatIsLoaded() {
        int[] loads = {Chips.LOAD_A, Chips.LOAD_X, Chips.LOAD_Y};
        for (int i = 0; i < 3; i++) {
            for (int b = 0; b < 256; b++) {
                for (int p : new int[] {0, 207}) {
                    ClockedChip chip = Chips.at(0, Chips.code(loads[i], 0), b);
                    chip.set(Chips.P, p);
                    chip.cycles(2);
                    CHECK.same("load " + i + " of " + b, chip.register(i), b);
                    CHECK.same("load " + i + " of " + b + ", P", chip.register(Chips.P), 32 + (p & 77) + nz(b));
                }
            }
        }
    }

    private static void nAndZOfWhatIsPulled() {
        for (int b = 0; b < 256; b++) {
            ClockedChip chip = Chips.at(0, Chips.PULL_A);
            chip.poke(257, b);
            chip.set(Chips.P, 255 - nz(b));
            chip.cycles(4);
            CHECK.same("PULL A of " + b, chip.register(Chips.A), b);
            CHECK.same("PULL A of " + b + ", P", chip.register(Chips.P), 32 + 77 + nz(b));
        }
    }

    /** Rows: the operation of mode 7, the register it takes, the one that it makes. */
    private static void nAndZOfTransfers() {
        int[][] rows = {{5, Chips.A, Chips.X}, {6, Chips.X, Chips.A}, {7, Chips.A, Chips.Y}, {8, Chips.Y, Chips.A},
            {15, Chips.X, Chips.S}};
        for (int[] row : rows) {
            for (int b = 0; b < 256; b++) {
                int p = 207 - nz(b);
                ClockedChip chip = Chips.at(0, Chips.code(row[0], 7));
                chip.set(row[1], b);
                chip.set(row[2], b + 1);
                chip.set(Chips.P, p);
                chip.cycles(2);
                CHECK.same("mode 7 of " + row[0] + " with " + b, chip.register(row[2]), b);
                CHECK.same("mode 7 of " + row[0] + " takes from", chip.register(row[1]), b);
                int newP = row[2] == Chips.S ? p : (p & 77) + nz(b);
                CHECK.same("mode 7 of " + row[0] + " with " + b + ", P", chip.register(Chips.P), 32 + newP);
            }
        }
    }

    /** "1 X + 1, 2 X - 1, 3 Y + 1, 4 Y - 1": eight bits each. */
    private static void oneMoreAndOneLess() {
        int[][] rows = {{1, Chips.X, 1}, {2, Chips.X, 255}, {3, Chips.Y, 1}, {4, Chips.Y, 255}};
        for (int[] row : rows) {
            for (int b = 0; b < 256; b++) {
                int due = (b + row[2]) % 256;
                ClockedChip chip = Chips.at(0, Chips.code(row[0], 7));
                chip.set(row[1], b);
                chip.set(Chips.P, 207 - nz(due));
                chip.cycles(2);
                CHECK.same("mode 7 of " + row[0] + " with " + b, chip.register(row[1]), due);
                CHECK.same("mode 7 of " + row[0] + " with " + b + ", P", chip.register(Chips.P), 32 + 77 + nz(due));
            }
        }
    }

    /** "MORE, LESS: the byte + 1, - 1 (mod 256); LEFT: C is its bit 7 ...; RIGHT: C is its bit 0 ...". */
    private static void changesOfEveryByte() {
        for (int b = 0; b < 256; b++) {
            for (int c = 0; c < 2; c++) {
                change("MORE", Chips.MORE, b, c, b == 255 ? 0 : b + 1, c);
                change("LESS", Chips.LESS, b, c, b == 0 ? 255 : b - 1, c);
                change("LEFT", Chips.LEFT, b, c, b < 128 ? 2 * b : 2 * b - 256, b < 128 ? 0 : 1);
                change("RIGHT", Chips.RIGHT, b, c, b / 2, b % 2);
            }
        }
    }

    private static void change(String what, int operation, int b, int c, int changed, int newC) {
        for (int p : new int[] {0, N + V + D + I + Z}) {
            ClockedChip chip = Chips.at(0, Chips.code(operation, 1), 90);
            chip.poke(90, b);
            chip.set(Chips.A, 33);
            chip.set(Chips.P, p + c);
            chip.cycles(3);
            CHECK.trace(what + " of " + b, chip, Chips.write(90, b), Chips.write(90, changed));
            int due = 32 + (p & (V + D + I)) + nz(changed) + newC;
            CHECK.registers(what + " of " + b + ", C " + c, chip, 33, 0, 0, 0, 2, due, 0, 0);
        }
    }

    /** "COMPARE: C is whether A is not less than the byte, N and Z of A less it." */
    private static void comparesOfEveryByte() {
        for (int a : new int[] {0, 1, 127, 128, 129, 254, 255}) {
            for (int b = 0; b < 256; b++) {
                for (int p : new int[] {0, 207}) {
                    ClockedChip chip = Chips.at(0, Chips.code(Chips.COMPARE, 0), b);
                    chip.set(Chips.A, a);
                    chip.set(Chips.P, p);
                    chip.cycles(2);
                    int due = 32 + (p & (V + D + I)) + nz(Math.floorMod(a - b, 256)) + (a < b ? 0 : C);
                    CHECK.registers("COMPARE of " + a + ", " + b, chip, a, 0, 0, 0, 2, due, 0, 0);
                }
            }
        }
    }

    /** "C is whether that is above 255". */
    private static void addAbove255() {
        due("254", Chips.ADD, 127, 127, 0, 254, N + V);
        due("255", Chips.ADD, 128, 127, 0, 255, N);
        due("255 with C", Chips.ADD, 127, 127, C, 255, N + V);
        due("256", Chips.ADD, 128, 128, 0, 0, V + Z + C);
        due("256 with C", Chips.ADD, 128, 127, C, 0, Z + C);
        due("255 of 0", Chips.ADD, 0, 255, 0, 255, N);
        due("256 of 0", Chips.ADD, 0, 255, C, 0, Z + C);
        due("0", Chips.ADD, 0, 0, 0, 0, Z);
        due("1", Chips.ADD, 0, 0, C, 1, 0);
        due("510", Chips.ADD, 255, 255, 0, 254, N + C);
        due("511", Chips.ADD, 255, 255, C, 255, N + C);
    }

    /** "V whether A and b have the same bit 7 and the sum another one". */
    private static void addBit7() {
        due("127", Chips.ADD, 126, 1, 0, 127, 0);
        due("128", Chips.ADD, 127, 1, 0, 128, N + V);
        due("128 with C", Chips.ADD, 126, 1, C, 128, N + V);
        due("-128", Chips.ADD, 129, 255, 0, 128, N + C);
        due("-129", Chips.ADD, 128, 255, 0, 127, V + C);
        due("-128 with C", Chips.ADD, 128, 255, C, 128, N + C);
        due("other bits 7", Chips.ADD, 127, 128, 0, 255, N);
        due("other bits 7 with C", Chips.ADD, 127, 128, C, 0, Z + C);
        due("other bits 7, turned", Chips.ADD, 255, 1, 0, 0, Z + C);
        due("other bits 7, above 0", Chips.ADD, 255, 127, 0, 126, C);
    }

    /** "SUBTRACT of b: flags as ADD of 255 - b with D 0; A likewise with D 0". */
    private static void subtractBelow0() {
        due("0", Chips.SUBTRACT, 7, 7, C, 0, Z + C);
        due("-1", Chips.SUBTRACT, 7, 7, 0, 255, N);
        due("1", Chips.SUBTRACT, 8, 7, C, 1, C);
        due("-1 with C", Chips.SUBTRACT, 7, 8, C, 255, N);
        due("255", Chips.SUBTRACT, 255, 0, C, 255, N + C);
        due("-255", Chips.SUBTRACT, 0, 255, C, 1, 0);
        due("-256", Chips.SUBTRACT, 0, 255, 0, 0, Z);
        due("128", Chips.SUBTRACT, 127, 255, C, 128, N + V);
        due("127", Chips.SUBTRACT, 127, 255, 0, 127, 0);
        due("-128", Chips.SUBTRACT, 128, 0, C, 128, N + C);
        due("-129", Chips.SUBTRACT, 128, 0, 0, 127, V + C);
    }

    /** "l is the sum of the low halves and C; if it is above 9, 6 more"; "1 if l is above 15". */
    private static void decimalLowHalves() {
        due("l 0", Chips.ADD, 0x00, 0x00, D, 0x00, Z);
        due("l 8", Chips.ADD, 0x04, 0x04, D, 0x08, 0);
        due("l 9", Chips.ADD, 0x04, 0x05, D, 0x09, 0);
        due("l 9 with C", Chips.ADD, 0x04, 0x04, D + C, 0x09, 0);
        due("l 9 of one", Chips.ADD, 0x09, 0x00, D, 0x09, 0);
        due("l 10", Chips.ADD, 0x05, 0x05, D, 0x10, 0);
        due("l 10 with C", Chips.ADD, 0x05, 0x04, D + C, 0x10, 0);
        due("l 10 of one", Chips.ADD, 0x0a, 0x00, D, 0x10, 0);
        due("l 15", Chips.ADD, 0x08, 0x07, D, 0x15, 0);
        due("l 15 of one", Chips.ADD, 0x0f, 0x00, D, 0x15, 0);
        due("l 15 with C", Chips.ADD, 0x0e, 0x00, D + C, 0x15, 0);
        due("l 16", Chips.ADD, 0x08, 0x08, D, 0x16, 0);
        due("l 16 with C", Chips.ADD, 0x0f, 0x00, D + C, 0x16, 0);
        due("l 19", Chips.ADD, 0x09, 0x09, D + C, 0x19, 0);
        due("l 25", Chips.ADD, 0x0f, 0x0a, D, 0x1f, 0);
        due("l 26", Chips.ADD, 0x0f, 0x0b, D, 0x10, 0);
        due("l 30", Chips.ADD, 0x0f, 0x0f, D, 0x14, 0);
        due("l 31", Chips.ADD, 0x0f, 0x0f, D + C, 0x15, 0);
    }

    /** "if h is above 9, 6 more; C is whether h is above 15". */
    private static void decimalHighHalves() {
        due("h 8", Chips.ADD, 0x40, 0x40, D, 0x80, N + V);
        due("h 9", Chips.ADD, 0x50, 0x40, D, 0x90, N + V);
        due("h 9 of one", Chips.ADD, 0x90, 0x00, D, 0x90, N);
        due("h 10", Chips.ADD, 0x50, 0x50, D, 0x00, N + V + C);
        due("h 10 of one", Chips.ADD, 0xa0, 0x00, D, 0x00, N + C);
        due("h 15", Chips.ADD, 0x80, 0x70, D, 0x50, N + C);
        due("h 15 of one", Chips.ADD, 0xf0, 0x00, D, 0x50, N + C);
        due("h 16", Chips.ADD, 0x80, 0x80, D, 0x60, V + Z + C);
        due("h 16 of other bits 7", Chips.ADD, 0x90, 0x70, D, 0x60, Z + C);
        due("h 18", Chips.ADD, 0x90, 0x90, D, 0x80, V + C);
        due("h 23", Chips.ADD, 0xf0, 0x80, D, 0xd0, V + C);
        due("h 24", Chips.ADD, 0xf0, 0x90, D, 0xe0, N + C);
        due("h 25", Chips.ADD, 0xf0, 0xa0, D, 0xf0, N + C);
        due("h 26", Chips.ADD, 0xf0, 0xb0, D, 0x00, N + C);
        due("h 30", Chips.ADD, 0xf0, 0xf0, D, 0x40, N + C);
    }

    private static void decimalBothHalves() {
        due("h 9, l 9", Chips.ADD, 0x54, 0x45, D, 0x99, N + V);
        due("h 9 by l 10", Chips.ADD, 0x45, 0x45, D, 0x90, N + V);
        due("h 10 by l 10", Chips.ADD, 0x55, 0x45, D, 0x00, N + V + C);
        due("h 10 by C", Chips.ADD, 0x99, 0x00, D + C, 0x00, N + C);
        due("h 9, l 9 and no C", Chips.ADD, 0x99, 0x00, D, 0x99, N);
        due("h 8 by l 10", Chips.ADD, 0x35, 0x45, D, 0x80, N + V);
        due("h 7, l 9", Chips.ADD, 0x34, 0x45, D, 0x79, 0);
        due("h 16 by l 10", Chips.ADD, 0x85, 0x75, D, 0x60, C);
        due("h 19", Chips.ADD, 0x99, 0x99, D + C, 0x99, V + C);
        due("h 31", Chips.ADD, 0xff, 0xff, D + C, 0x55, N + C);
        due("h 10 by l 15", Chips.ADD, 0x9f, 0x00, D, 0x05, N + C);
    }

    /** "Z is as with D 0; N is bit 3 of h": so Z with A not 0, and A 0 without Z. */
    private static void decimalAddFlags() {
        due("Z, A is 66", Chips.ADD, 0xff, 0x01, D, 0x66, Z + C);
        due("Z, A is 66 with C", Chips.ADD, 0xff, 0x00, D + C, 0x66, Z + C);
        due("A is 0, no Z", Chips.ADD, 0x99, 0x01, D, 0x00, N + C);
        due("Z and A is 0", Chips.ADD, 0x00, 0x00, D, 0x00, Z);
        due("N, A has no bit 7", Chips.ADD, 0x71, 0x82, D, 0x53, N + C);
        due("no N, A has bit 7", Chips.ADD, 0x91, 0x92, D, 0x83, V + C);
        due("V of bits 7 that are 0", Chips.ADD, 0x79, 0x01, D, 0x80, N + V);
        due("no V of other bits 7", Chips.ADD, 0x79, 0x81, D, 0x60, C);
    }

    /** "l is the low half of A less that of b less 1 - C; if it is below 0, 6 less". */
    private static void decimalSubtractLowHalves() {
        due("l 1", Chips.SUBTRACT, 0x16, 0x05, D + C, 0x11, C);
        due("l 0", Chips.SUBTRACT, 0x15, 0x05, D + C, 0x10, C);
        due("l 0 without C", Chips.SUBTRACT, 0x16, 0x05, D, 0x10, C);
        due("l -1", Chips.SUBTRACT, 0x15, 0x06, D + C, 0x09, C);
        due("l -1 without C", Chips.SUBTRACT, 0x15, 0x05, D, 0x09, C);
        due("l -9", Chips.SUBTRACT, 0x10, 0x09, D + C, 0x01, C);
        due("l -10", Chips.SUBTRACT, 0x10, 0x09, D, 0x00, C);
        due("l -10 of no digit", Chips.SUBTRACT, 0x10, 0x0a, D + C, 0x00, C);
        due("l -11", Chips.SUBTRACT, 0x10, 0x0b, D + C, 0x0f, C);
        due("l -15", Chips.SUBTRACT, 0x10, 0x0f, D + C, 0x0b, C);
        due("l -16", Chips.SUBTRACT, 0x10, 0x0f, D, 0x0a, Z + C);
        due("l 15", Chips.SUBTRACT, 0x1f, 0x00, D + C, 0x1f, C);
        due("l 10", Chips.SUBTRACT, 0x1f, 0x05, D + C, 0x1a, C);
        due("l 9", Chips.SUBTRACT, 0x19, 0x10, D + C, 0x09, C);
    }

    /** "h is the high half of A less that of b, less 1 if l is below 0; if it is below 0, 6 less". */
    private static void decimalSubtractHighHalves() {
        due("h 1", Chips.SUBTRACT, 0x60, 0x50, D + C, 0x10, C);
        due("h 0", Chips.SUBTRACT, 0x50, 0x50, D + C, 0x00, Z + C);
        due("h 0 by l below 0", Chips.SUBTRACT, 0x60, 0x51, D + C, 0x09, C);
        due("h -1", Chips.SUBTRACT, 0x50, 0x60, D + C, 0x90, N);
        due("h -1 by l below 0", Chips.SUBTRACT, 0x50, 0x51, D + C, 0x99, N);
        due("h -1 by C", Chips.SUBTRACT, 0x50, 0x50, D, 0x99, N);
        due("h -9", Chips.SUBTRACT, 0x00, 0x90, D + C, 0x10, 0);
        due("h -10", Chips.SUBTRACT, 0x00, 0x91, D + C, 0x09, 0);
        due("h -10 of no digit", Chips.SUBTRACT, 0x00, 0xa0, D + C, 0x00, 0);
        due("h -11", Chips.SUBTRACT, 0x00, 0xb0, D + C, 0xf0, 0);
        due("h -15", Chips.SUBTRACT, 0x00, 0xf0, D + C, 0xb0, 0);
        due("h -16", Chips.SUBTRACT, 0x00, 0xf1, D + C, 0xa9, 0);
        due("h 15", Chips.SUBTRACT, 0xf0, 0x00, D + C, 0xf0, N + C);
        due("h 10", Chips.SUBTRACT, 0xf0, 0x50, D + C, 0xa0, N + C);
    }

    /** "flags as ADD of 255 - b with D 0": whatever A is. */
    private static void decimalSubtractFlags() {
        due("Z, A is aa", Chips.SUBTRACT, 0x00, 0xff, D, 0xaa, Z);
        due("N, A is 91", Chips.SUBTRACT, 0x12, 0x21, D + C, 0x91, N);
        due("no N, A has bit 7", Chips.SUBTRACT, 0x10, 0x91, D + C, 0x19, 0);
        due("V", Chips.SUBTRACT, 0x80, 0x01, D + C, 0x79, V + C);
        due("V of bits 7 that are 0", Chips.SUBTRACT, 0x79, 0x90, D + C, 0x89, N + V);
        due("A is 0, no Z", Chips.SUBTRACT, 0x10, 0x0a, D + C, 0x00, C);
    }

    /** D is named in ADD and SUBTRACT alone; COMPARE with D is in comparesOfEveryByte. */
    private static void dIsHeededByAddAndSubtractAlone() {
        for (int b = 0; b < 256; b++) {
            for (int operation = Chips.MORE; operation <= Chips.RIGHT; operation++) {
                ClockedChip binary = Chips.at(0, Chips.code(operation, 1), 90);
                ClockedChip decimal = Chips.at(0, Chips.code(operation, 1), 90);
                decimal.set(Chips.P, D);
                binary.poke(90, b);
                decimal.poke(90, b);
                binary.cycles(5);
                decimal.cycles(5);
                CHECK.same("operation " + operation + " of " + b, decimal.peek(90), binary.peek(90));
                CHECK.same("P, operation " + operation + " of " + b, decimal.register(Chips.P),
                    binary.register(Chips.P) + D);
            }
        }
    }

    /** Every A, b and C by the document's words, told with division alone. */
    private static void everyDecimalByte() {
        for (int a = 0; a < 256; a++) {
            for (int b = 0; b < 256; b++) {
                for (int c = 0; c < 2; c++) {
                    decimalAdd(a, b, c);
                    decimalSubtract(a, b, c);
                }
            }
        }
    }

    private static void decimalAdd(int a, int b, int c) {
        int l = a % 16 + b % 16 + c;
        int carried = l > 9 ? 1 : 0;
        int h = a / 16 + b / 16 + carried;
        boolean bit3 = h / 8 % 2 == 1;
        int p = D + (h > 9 ? C : 0) + ((a + b + c) % 256 == 0 ? Z : 0) + (bit3 ? N : 0);
        p += a > 127 == b > 127 && bit3 != a > 127 ? V : 0;
        int newA = (h > 9 ? h + 6 : h) % 16 * 16 + (l + 6 * carried) % 16;
        once("decimal ADD", Chips.ADD, a, b, D + c, newA, p);
    }

    private static void decimalSubtract(int a, int b, int c) {
        int l = a % 16 - b % 16 - 1 + c;
        int borrowed = l < 0 ? 1 : 0;
        int h = a / 16 - b / 16 - borrowed;
        int sum = a + 255 - b + c;
        int p = D + sum / 256 + nz(sum % 256);
        p += a > 127 == b < 128 && sum % 256 > 127 != a > 127 ? V : 0;
        int newA = Math.floorMod(h < 0 ? h - 6 : h, 16) * 16 + Math.floorMod(l - 6 * borrowed, 16);
        once("decimal SUBTRACT", Chips.SUBTRACT, a, b, D + c, newA, p);
    }

    private static void once(String what, int operation, int a, int b, int p, int newA, int newP) {
        ClockedChip chip = Chips.at(0, Chips.code(operation, 0), b);
        chip.set(Chips.A, a);
        chip.set(Chips.P, p);
        chip.cycles(2);
        int got = 256 * chip.register(Chips.A) + chip.register(Chips.P);
        if (got != 256 * newA + 32 + newP) {
            CHECK.same(what + " of " + a + ", " + b + ", P " + p + ": 256 * A + P", got, 256 * newA + 32 + newP);
        }
    }
}
