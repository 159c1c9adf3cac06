/** Promise 4: what comes of the operations that read a byte, told apart from the cycles. */
public final class ArithmeticTest {
    private static final Check CHECK = new Check();

    public static void main(String[] args) {
        loads();
        logic();
        compares();
        addsByHand();
        subtractsByHand();
        binaryAll();
        decimalAllDigits();
        decimalOdd();
        CHECK.finish();
    }

    /** P is the flags alone here; A and P behind the operation are answered as 256 * A + P. */
    private static int run(int operation, int a, int b, int p) {
        ClockedChip chip = Chips.at(0, Chips.code(operation, 0), b);
        chip.set(Chips.A, a);
        chip.set(Chips.P, p);
        chip.cycles(2);
        return 256 * chip.register(Chips.A) + chip.register(Chips.P) - 32;
    }

    private static void due(String what, int operation, int a, int b, int p, int newA, int newP) {
        int got = run(operation, a, b, p);
        CHECK.same(what + " of " + a + ", " + b + ", P " + p + ": A", got >> 8, newA);
        CHECK.same(what + " of " + a + ", " + b + ", P " + p + ": P", got & 255, newP);
    }

    private static void loads() {
        due("LOAD A", Chips.LOAD_A, 1, 0, 205, 0, 79);
        due("LOAD A", Chips.LOAD_A, 1, 128, 79, 128, 205);
        due("LOAD A", Chips.LOAD_A, 1, 127, 207, 127, 77);
        due("LOAD X", Chips.LOAD_X, 1, 0, 205, 1, 79);
        due("LOAD Y", Chips.LOAD_Y, 1, 255, 2, 1, 128);
        ClockedChip chip = Chips.at(0, Chips.code(Chips.LOAD_X, 0), 9, Chips.code(Chips.LOAD_Y, 0), 200);
        chip.cycles(4);
        CHECK.registers("LOAD X and Y", chip, 0, 9, 200, 0, 4, 160);
    }

    /** The document leaves N and Z of these open; they are taken of A, as with every other result. */
    private static void logic() {
        due("AND", Chips.AND, 0b11001100, 0b10101010, 79, 0b10001000, 205);
        due("AND", Chips.AND, 0b11001100, 0b00110011, 128, 0, 2);
        due("OR", Chips.OR, 0b01001100, 0b00101010, 130, 0b01101110, 0);
        due("OR", Chips.OR, 0, 0, 0, 0, 2);
        due("OR", Chips.OR, 1, 128, 65, 129, 193);
        due("XOR", Chips.XOR, 0b11001100, 0b10101010, 130, 0b01100110, 0);
        due("XOR", Chips.XOR, 255, 255, 9, 0, 11);
        due("XOR", Chips.XOR, 127, 255, 0, 128, 128);
    }

    private static void compares() {
        due("COMPARE", Chips.COMPARE, 5, 5, 128, 5, 3);
        due("COMPARE", Chips.COMPARE, 5, 6, 3, 5, 128);
        due("COMPARE", Chips.COMPARE, 6, 5, 130, 6, 1);
        due("COMPARE", Chips.COMPARE, 200, 1, 0, 200, 129);
        due("COMPARE", Chips.COMPARE, 1, 200, 1, 1, 0);
        due("COMPARE leaves V and D", Chips.COMPARE, 128, 1, 76, 128, 77);
        due("COMPARE heeds no C", Chips.COMPARE, 0, 255, 1, 0, 0);
    }

    private static void addsByHand() {
        due("ADD", Chips.ADD, 1, 2, 0, 3, 0);
        due("ADD", Chips.ADD, 1, 2, 1, 4, 0);
        due("ADD", Chips.ADD, 255, 1, 0, 0, 3);
        due("ADD", Chips.ADD, 127, 1, 0, 128, 192);
        due("ADD", Chips.ADD, 128, 128, 0, 0, 67);
        due("ADD", Chips.ADD, 127, 0, 1, 128, 192);
        due("ADD clears V", Chips.ADD, 1, 1, 64, 2, 0);
        due("ADD keeps I", Chips.ADD, 1, 1, 4, 2, 4);
        due("decimal ADD", Chips.ADD, 0x58, 0x46, 9, 0x05, 201);
        due("decimal ADD", Chips.ADD, 0x12, 0x34, 8, 0x46, 8);
        due("decimal ADD", Chips.ADD, 0x99, 0x01, 8, 0x00, 137);
        due("decimal ADD", Chips.ADD, 0x81, 0x92, 8, 0x73, 73);
        due("decimal ADD of no digits", Chips.ADD, 0x0f, 0x01, 8, 0x16, 8);
        due("decimal ADD of no digits", Chips.ADD, 0xff, 0x01, 8, 0x66, 11);
        due("decimal ADD of no digits", Chips.ADD, 0x0f, 0x0f, 9, 0x15, 8);
        due("decimal ADD of no digits", Chips.ADD, 0xff, 0xff, 9, 0x55, 137);
        due("decimal ADD, Z as without D", Chips.ADD, 0x80, 0x80, 8, 0x60, 75);
    }

    private static void subtractsByHand() {
        due("SUBTRACT", Chips.SUBTRACT, 5, 3, 1, 2, 1);
        due("SUBTRACT", Chips.SUBTRACT, 5, 3, 0, 1, 1);
        due("SUBTRACT", Chips.SUBTRACT, 3, 5, 1, 254, 128);
        due("SUBTRACT", Chips.SUBTRACT, 5, 5, 1, 0, 3);
        due("SUBTRACT", Chips.SUBTRACT, 128, 1, 1, 127, 65);
        due("SUBTRACT", Chips.SUBTRACT, 0, 0, 0, 255, 128);
        due("decimal SUBTRACT", Chips.SUBTRACT, 0x46, 0x12, 9, 0x34, 9);
        due("decimal SUBTRACT", Chips.SUBTRACT, 0x40, 0x13, 9, 0x27, 9);
        due("decimal SUBTRACT", Chips.SUBTRACT, 0x32, 0x02, 8, 0x29, 9);
        due("decimal SUBTRACT", Chips.SUBTRACT, 0x12, 0x21, 9, 0x91, 136);
        due("decimal SUBTRACT", Chips.SUBTRACT, 0x21, 0x34, 9, 0x87, 136);
        due("decimal SUBTRACT", Chips.SUBTRACT, 0x00, 0x00, 8, 0x99, 136);
        due("decimal SUBTRACT of no digits", Chips.SUBTRACT, 0x00, 0x0f, 9, 0x9b, 136);
        due("decimal SUBTRACT of no digits", Chips.SUBTRACT, 0x0f, 0x00, 9, 0x0f, 9);
    }

    private static void binaryAll() {
        for (int a = 0; a < 256; a += 3) {
            for (int b = 0; b < 256; b++) {
                for (int c = 0; c < 2; c++) {
                    int sum = a + b + c;
                    int signed = (byte) a + (byte) b + c;
                    due("ADD", Chips.ADD, a, b, c, sum % 256, flags(sum > 255, signed, sum % 256));
                    int less = a - b - (1 - c);
                    int signedLess = (byte) a - (byte) b - (1 - c);
                    int byteLess = Math.floorMod(less, 256);
                    due("SUBTRACT", Chips.SUBTRACT, a, b, c, byteLess, flags(less >= 0, signedLess, byteLess));
                }
            }
        }
    }

    /** V is whether the signed result does not fit a byte: the same as the document's rule of bits 7. */
    private static int flags(boolean carry, int signed, int result) {
        return (carry ? 1 : 0) + (result == 0 ? 2 : 0) + (signed < -128 || signed > 127 ? 64 : 0)
            + (result > 127 ? 128 : 0);
    }

    private static int packed(int number) {
        return 16 * (number / 10) + number % 10;
    }

    private static void decimalAllDigits() {
        for (int m = 0; m < 100; m++) {
            for (int n = 0; n < 100; n++) {
                for (int c = 0; c < 2; c++) {
                    int added = run(Chips.ADD, packed(m), packed(n), 8 + c);
                    CHECK.same(m + " + " + n + " + " + c, added >> 8, packed((m + n + c) % 100));
                    CHECK.same("C of " + m + " + " + n + " + " + c, added & 1, (m + n + c) / 100);
                    int less = m - n - (1 - c);
                    int taken = run(Chips.SUBTRACT, packed(m), packed(n), 8 + c);
                    CHECK.same(m + " - " + n + ", C " + c, taken >> 8, packed(Math.floorMod(less, 100)));
                    int binary = run(Chips.SUBTRACT, packed(m), packed(n), c);
                    CHECK.same("P of " + m + " - " + n + ", C " + c, taken & 255, (binary & 255) + 8);
                }
            }
        }
    }

    /** Bytes that are no digits, by the document's words. */
    private static void decimalOdd() {
        for (int a = 0; a < 256; a += 5) {
            for (int b = 0; b < 256; b++) {
                int c = (a ^ b) & 1;
                due("decimal ADD", Chips.ADD, a, b, 8 + c, decimalSum(a, b, c) & 255, decimalSum(a, b, c) >> 8);
            }
        }
    }

    private static int decimalSum(int a, int b, int c) {
        int l = a % 16 + b % 16 + c;
        l = l > 9 ? l + 6 : l;
        int h = a / 16 + b / 16 + (l > 15 ? 1 : 0);
        int bit = h / 8 % 2;
        int p = 8 + 128 * bit + ((a + b + c) % 256 == 0 ? 2 : 0);
        p += a / 128 == b / 128 && bit != a / 128 ? 64 : 0;
        h = h > 9 ? h + 6 : h;
        p += h > 15 ? 1 : 0;
        return 256 * p + 16 * (h % 16) + l % 16;
    }
}
