/** Addresses that go round, in the zero page and in sixteen bits, and pages that are the same and another one. */
public final class EdgeAddressTest {
    private static final Check CHECK = new Check();
    private static final int[] READING = {0, 2, 3, 4, 5, 6, 7, 8, 9};
    private static final int[] CHANGING = {10, 11, 12, 13};

    public static void main(String[] args) {
        zero();
        zeroAndX();
        throughX();
        throughAndY();
        farAndXOnTheSamePage();
        farAndXOnAnotherPage();
        farAndXBeyondSixteenBits();
        throughAndYOnTheSamePage();
        throughAndYOnAnotherPage();
        throughAndYBeyondSixteenBits();
        farAtTheLastAddress();
        throughXAtTheLastAddress();
        CHECK.finish();
    }

    private static int read(int address, int b) {
        return Chips.read(address, b);
    }

    private static int write(int address, int b) {
        return Chips.write(address, b);
    }

    /** A chip at 600 whose memory tells its own address: no two bytes that an edge could mix up are the same. */
    private static ClockedChip chip(int operation, int mode, int... operands) {
        ClockedChip chip = new ClockedChip();
        int[] telling = {0, 1, 2, 253, 254, 255, 256, 257, 258, 511, 512, 768, 1022, 1023};
        for (int i = 0; i < telling.length; i++) {
            chip.poke(telling[i], 21 + i);
        }
        Chips.put(chip, 600, Chips.code(operation, mode));
        Chips.put(chip, 601, operands);
        chip.set(Chips.PC, 600);
        chip.set(Chips.A, 200);
        return chip;
    }

    /** The cycles at EA, at which the byte b stands: one that reads, one that writes, or the three of a change. */
    private static void operand(String what, ClockedChip chip, int operation, int ea) {
        int b = chip.peek(ea);
        if (operation == Chips.STORE_A) {
            CHECK.trace(what, chip, write(ea, 200));
            CHECK.same(what + " is stored", chip.peek(ea), 200);
        } else if (operation < Chips.MORE) {
            CHECK.trace(what, chip, read(ea, b));
        } else {
            CHECK.trace(what, chip, read(ea, b), write(ea, b), write(ea, changed(operation, b)));
            CHECK.same(what + " is changed", chip.peek(ea), changed(operation, b));
        }
        CHECK.same(what + " is at its end", chip.register(Chips.DONE), 0);
    }

    private static int changed(int operation, int b) {
        switch (operation) {
            case Chips.MORE: return b + 1;
            case Chips.LESS: return (b + 255) % 256;
            case Chips.LEFT: return b * 2;
            default: return b / 2;
        }
    }

    /** "1: next: EA is that byte z." */
    private static void zero() {
        for (int operation = 0; operation < 14; operation++) {
            for (int z : new int[] {0, 1, 254, 255}) {
                ClockedChip chip = chip(operation, 1, z);
                String what = "zero, operation " + operation + ", z " + z;
                CHECK.trace(what, chip, read(600, 8 * operation + 1), read(601, z));
                operand(what, chip, operation, z);
            }
        }
    }

    /** "2: next; idle z: EA is (z + X) mod 256." */
    private static void zeroAndX() {
        int[][] rows = {{0, 0, 0}, {255, 0, 255}, {0, 255, 255}, {254, 1, 255}, {255, 1, 0}, {1, 255, 0}, {128, 128, 0},
            {255, 2, 1}, {255, 255, 254}, {254, 255, 253}};
        for (int operation = 0; operation < 14; operation++) {
            for (int[] row : rows) {
                ClockedChip chip = chip(operation, 2, row[0]);
                chip.set(Chips.X, row[1]);
                String what = "zero and X, operation " + operation + ", " + row[0] + " + " + row[1];
                CHECK.trace(what, chip, read(600, 8 * operation + 2), read(601, row[0]),
                    read(row[0], chip.peek(row[0])));
                operand(what, chip, operation, row[2]);
            }
        }
    }

    /** "5: next; idle z; the byte at (z + X) mod 256, that at (z + X + 1) mod 256". */
    private static void throughX() {
        int[][] rows = {{253, 0, 253, 254}, {254, 0, 254, 255}, {255, 0, 255, 0}, {0, 255, 255, 0}, {254, 1, 255, 0},
            {255, 1, 0, 1}, {1, 255, 0, 1}, {255, 2, 1, 2}, {255, 255, 254, 255}, {128, 127, 255, 0}, {128, 128, 0, 1}};
        for (int operation = 0; operation < 10; operation++) {
            for (int[] row : rows) {
                ClockedChip chip = chip(operation, 5, row[0]);
                chip.set(Chips.X, row[1]);
                int low = chip.peek(row[2]);
                int page = chip.peek(row[3]);
                String what = "through X, operation " + operation + ", " + row[0] + " + " + row[1];
                CHECK.trace(what, chip, read(600, 8 * operation + 5), read(601, row[0]),
                    read(row[0], chip.peek(row[0])), read(row[2], low), read(row[3], page));
                operand(what, chip, operation, 256 * page + low);
            }
        }
    }

    /** "6: next; the byte at z, that at (z + 1) mod 256". */
    private static void throughAndY() {
        for (int operation = 0; operation < 10; operation++) {
            for (int z : new int[] {0, 1, 253, 254, 255}) {
                ClockedChip chip = chip(operation, 6, z);
                chip.set(Chips.Y, 3);
                int low = chip.peek(z);
                int page = chip.peek((z + 1) % 256);
                int ea = 256 * page + low + 3;
                String what = "through and Y, operation " + operation + ", z " + z;
                CHECK.trace(what, chip, read(600, 8 * operation + 6), read(601, z), read(z, low),
                    read((z + 1) % 256, page));
                if (operation == Chips.STORE_A) {
                    CHECK.trace(what + " is idle", chip, read(ea, chip.peek(ea)));
                }
                operand(what, chip, operation, ea);
            }
        }
    }

    private static void farAndX(int operation, int low, int page, int x, int half, int ea, boolean idle) {
        ClockedChip chip = chip(operation, 4, low, page);
        chip.set(Chips.X, x);
        String what = "far and X, operation " + operation + ", " + (256 * page + low) + " + " + x;
        CHECK.trace(what, chip, read(600, 8 * operation + 4), read(601, low), read(602, page));
        if (idle) {
            CHECK.trace(what + " is idle", chip, read(half, chip.peek(half)));
        }
        operand(what, chip, operation, ea);
        CHECK.same(what + ", PC", chip.register(Chips.PC), 603);
    }

    /** "if a byte is stored or changed, or the page of EA is another one than HALF's, idle HALF": none of these. */
    private static void farAndXOnTheSamePage() {
        int[][] rows = {{0, 1, 0}, {0, 1, 255}, {255, 1, 0}, {254, 1, 1}, {1, 1, 254}, {0, 255, 255}, {255, 255, 0},
            {0, 0, 255}};
        for (int[] row : rows) {
            int ea = 256 * row[1] + row[0] + row[2];
            for (int operation : READING) {
                farAndX(operation, row[0], row[1], row[2], ea, ea, false);
            }
            farAndX(Chips.STORE_A, row[0], row[1], row[2], ea, ea, true);
            for (int operation : CHANGING) {
                farAndX(operation, row[0], row[1], row[2], ea, ea, true);
            }
        }
    }

    /** Another page: every operation is idle at HALF, which has the low byte of EA and the old page. */
    private static void farAndXOnAnotherPage() {
        int[][] rows = {{255, 1, 1, 256, 512}, {1, 1, 255, 256, 512}, {2, 1, 255, 257, 513}, {255, 1, 255, 510, 766},
            {128, 0, 128, 0, 256}, {255, 0, 2, 1, 257}, {255, 3, 1, 768, 1024}, {254, 254, 255, 65277, 65533}};
        for (int[] row : rows) {
            for (int operation = 0; operation < 14; operation++) {
                farAndX(operation, row[0], row[1], row[2], row[3], row[4], true);
            }
        }
    }

    /** "4: next, next: EA is that sum + X, mod 65536": page 0 is another one than page 255. */
    private static void farAndXBeyondSixteenBits() {
        int[][] rows = {{255, 255, 1, 65280, 0}, {255, 255, 2, 65281, 1}, {1, 255, 255, 65280, 0},
            {255, 255, 255, 65534, 254}};
        for (int[] row : rows) {
            for (int operation = 0; operation < 14; operation++) {
                farAndX(operation, row[0], row[1], row[2], row[3], row[4], true);
            }
        }
    }

    private static void throughAndY(int operation, int low, int page, int y, int half, int ea, boolean idle) {
        ClockedChip chip = chip(operation, 6, 90);
        Chips.put(chip, 90, low, page);
        chip.set(Chips.Y, y);
        // X must not count.
        chip.set(Chips.X, 101);
        String what = "through and Y, operation " + operation + ", " + (256 * page + low) + " + " + y;
        CHECK.trace(what, chip, read(600, 8 * operation + 6), read(601, 90), read(90, low), read(91, page));
        if (idle) {
            CHECK.trace(what + " is idle", chip, read(half, chip.peek(half)));
        }
        operand(what, chip, operation, ea);
        CHECK.same(what + ", PC", chip.register(Chips.PC), 602);
    }

    /** "EA and HALF as in 4, with Y for X": the same page. */
    private static void throughAndYOnTheSamePage() {
        int[][] rows = {{0, 1, 0}, {0, 1, 255}, {255, 1, 0}, {254, 1, 1}, {1, 1, 254}, {0, 255, 255}, {255, 255, 0}};
        for (int[] row : rows) {
            int ea = 256 * row[1] + row[0] + row[2];
            for (int operation : READING) {
                throughAndY(operation, row[0], row[1], row[2], ea, ea, false);
            }
            throughAndY(Chips.STORE_A, row[0], row[1], row[2], ea, ea, true);
        }
    }

    private static void throughAndYOnAnotherPage() {
        int[][] rows = {{255, 1, 1, 256, 512}, {1, 1, 255, 256, 512}, {2, 1, 255, 257, 513}, {255, 1, 255, 510, 766},
            {128, 0, 128, 0, 256}, {255, 3, 1, 768, 1024}, {254, 254, 255, 65277, 65533}};
        for (int[] row : rows) {
            for (int operation = 0; operation < 10; operation++) {
                throughAndY(operation, row[0], row[1], row[2], row[3], row[4], true);
            }
        }
    }

    private static void throughAndYBeyondSixteenBits() {
        int[][] rows = {{255, 255, 1, 65280, 0}, {255, 255, 2, 65281, 1}, {1, 255, 255, 65280, 0},
            {255, 255, 255, 65534, 254}};
        for (int[] row : rows) {
            for (int operation = 0; operation < 10; operation++) {
                throughAndY(operation, row[0], row[1], row[2], row[3], row[4], true);
            }
        }
    }

    /** "3: next, next: EA is the first byte and 256 times the second." */
    private static void farAtTheLastAddress() {
        int[][] rows = {{0, 0, 0}, {255, 0, 255}, {0, 1, 256}, {255, 3, 1023}, {0, 4, 1024}, {0, 255, 65280},
            {255, 255, 65535}};
        for (int operation = 0; operation < 14; operation++) {
            for (int[] row : rows) {
                ClockedChip chip = chip(operation, 3, row[0], row[1]);
                // An index must not count.
                chip.set(Chips.X, 9);
                chip.set(Chips.Y, 9);
                String what = "far, operation " + operation + ", " + row[2];
                CHECK.trace(what, chip, read(600, 8 * operation + 3), read(601, row[0]), read(602, row[1]));
                operand(what, chip, operation, row[2]);
            }
        }
    }

    private static void throughXAtTheLastAddress() {
        for (int operation = 0; operation < 10; operation++) {
            ClockedChip chip = chip(operation, 5, 90);
            Chips.put(chip, 97, 255, 255);
            chip.set(Chips.X, 7);
            // Y must not count.
            chip.set(Chips.Y, 9);
            String what = "through X, operation " + operation;
            CHECK.trace(what, chip, read(600, 8 * operation + 5), read(601, 90), read(90, 0), read(97, 255),
                read(98, 255));
            operand(what, chip, operation, 65535);
        }
    }
}
