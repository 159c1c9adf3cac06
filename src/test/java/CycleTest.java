/** Promise 4: what every cycle reads or writes, by mode and by instruction. */
public final class CycleTest {
    private static final Check CHECK = new Check();

    public static void main(String[] args) {
        zeroPage();
        far();
        farAndX();
        throughX();
        throughAndY();
        changes();
        withoutOperand();
        stack();
        jumps();
        branches();
        breaks();
        jams();
        addresses();
        CHECK.finish();
    }

    private static int read(int address, int b) {
        return Chips.read(address, b);
    }

    private static int write(int address, int b) {
        return Chips.write(address, b);
    }

    private static void zeroPage() {
        ClockedChip chip = Chips.at(300, 0, 129, 1, 60, 9, 61, 66, 255, 10, 250);
        chip.set(Chips.X, 8);
        Chips.put(chip, 60, 44);
        Chips.put(chip, 250, 6);
        Chips.put(chip, 2, 17);
        CHECK.trace("immediate", chip, read(300, 0), read(301, 129));
        CHECK.registers("immediate", chip, 129, 8, 0, 0, 302, 160);
        CHECK.trace("zero", chip, read(302, 1), read(303, 60), read(60, 44));
        CHECK.registers("zero", chip, 44, 8, 0, 0, 304, 32);
        CHECK.trace("store zero", chip, read(304, 9), read(305, 61), write(61, 44));
        CHECK.same("stored", chip.peek(61), 44);
        CHECK.trace("load X zero and X", chip, read(306, 66), read(307, 255), read(255, 0), read(7, 0));
        CHECK.registers("load X", chip, 44, 0, 0, 0, 308, 34);
        chip.set(Chips.X, 8);
        CHECK.trace("store zero and X goes round", chip, read(308, 10), read(309, 250), read(250, 6), write(2, 44));
    }

    private static void far() {
        ClockedChip chip = Chips.at(0, 3, 1, 6, 11, 255, 255, 75, 4, 3);
        chip.poke(0x0201, 99);
        chip.poke(0x0304, 200);
        CHECK.trace("far", chip, read(0, 3), read(1, 1), read(2, 6), read(0x0601, 99));
        CHECK.trace("store far", chip, read(3, 11), read(4, 255), read(5, 255), write(65535, 99));
        CHECK.same("stored in the low ten bits", chip.peek(1023), 99);
        CHECK.trace("load Y far", chip, read(6, 75), read(7, 4), read(8, 3), read(0x0304, 200));
        CHECK.registers("load Y", chip, 99, 0, 200, 0, 9, 160);
    }

    private static void farAndX() {
        ClockedChip chip = Chips.at(0, 4, 250, 1, 4, 250, 1, 12, 1, 2, 12, 255, 255);
        Chips.put(chip, 0x01ff, 31, 32);
        chip.set(Chips.X, 5);
        CHECK.trace("on one page", chip, read(0, 4), read(1, 250), read(2, 1), read(0x01ff, 31));
        chip.set(Chips.X, 6);
        CHECK.trace("on another page", chip, read(3, 4), read(4, 250), read(5, 1), read(0x0100, 0), read(0x0200, 32));
        CHECK.trace("store", chip, read(6, 12), read(7, 1), read(8, 2), read(0x0207, 0), write(0x0207, 32));
        chip.poke(1023 & 0xff05, 3);
        CHECK.trace("beyond sixteen bits", chip,
            read(9, 12), read(10, 255), read(11, 255), read(0xff05, 3), write(5, 32));

        ClockedChip round = Chips.at(20, 4, 255, 255);
        round.set(Chips.X, 255);
        round.poke(254, 71);
        CHECK.trace("load beyond sixteen bits", round,
            read(20, 4), read(21, 255), read(22, 255), read(0xfffe, 0), read(254, 71));
    }

    private static void throughX() {
        ClockedChip chip = Chips.at(300, 5, 254, 13, 250);
        chip.set(Chips.X, 1);
        Chips.put(chip, 254, 9, 77);
        chip.poke(0, 10);
        chip.poke(0x024d, 5);
        CHECK.trace("through X goes round", chip,
            read(300, 5), read(301, 254), read(254, 9), read(255, 77), read(0, 10), read(0x0a4d, 5));
        chip.set(Chips.X, 6);
        Chips.put(chip, 0, 255, 255);
        CHECK.trace("store through X", chip,
            read(302, 13), read(303, 250), read(250, 0), read(0, 255), read(1, 255), write(65535, 5));

        ClockedChip high = Chips.at(300, 5, 255);
        high.set(Chips.X, 255);
        Chips.put(high, 254, 1, 2);
        CHECK.trace("through X, 510", high,
            read(300, 5), read(301, 255), read(255, 2), read(254, 1), read(255, 2), read(0x0201, 0));
    }

    private static void throughAndY() {
        ClockedChip chip = Chips.at(300, 6, 255, 6, 255, 14, 80, 14, 82);
        chip.poke(255, 200);
        chip.poke(0, 1);
        chip.poke(0x01ff, 8);
        chip.poke(0x0200, 7);
        Chips.put(chip, 80, 3, 2, 255, 255);
        chip.set(Chips.Y, 55);
        CHECK.trace("on one page", chip,
            read(300, 6), read(301, 255), read(255, 200), read(0, 1), read(0x01ff, 8));
        chip.set(Chips.Y, 56);
        CHECK.trace("on another page", chip,
            read(302, 6), read(303, 255), read(255, 200), read(0, 1), read(0x0100, 0), read(0x0200, 7));
        CHECK.trace("store", chip,
            read(304, 14), read(305, 80), read(80, 3), read(81, 2), read(0x023b, 0), write(0x023b, 7));
        CHECK.trace("store beyond sixteen bits", chip,
            read(306, 14), read(307, 82), read(82, 255), read(83, 255), read(0xff37, 0), write(55, 7));
    }

    private static void changes() {
        ClockedChip chip = Chips.at(0, 81, 60, 90, 250, 99, 62, 4, 108, 250, 0);
        chip.poke(60, 255);
        chip.poke(70, 0);
        chip.poke(62, 129);
        chip.poke(320, 3);
        CHECK.trace("MORE zero", chip, read(0, 81), read(1, 60), read(60, 255), write(60, 255), write(60, 0));
        CHECK.same("P of MORE", chip.register(Chips.P), 34);
        chip.set(Chips.X, 76);
        CHECK.trace("LESS zero and X", chip,
            read(2, 90), read(3, 250), read(250, 0), read(70, 0), write(70, 0), write(70, 255));
        CHECK.same("P of LESS", chip.register(Chips.P), 160);
        CHECK.trace("LEFT far", chip,
            read(4, 99), read(5, 62), read(6, 4), read(0x043e, 129), write(0x043e, 129), write(0x043e, 2));
        CHECK.same("P of LEFT", chip.register(Chips.P), 33);
        chip.set(Chips.X, 70);
        CHECK.trace("RIGHT far and X", chip, read(7, 108), read(8, 250), read(9, 0), read(64, 0),
            read(320, 3), write(320, 3), write(320, 1));
        CHECK.same("P of RIGHT", chip.register(Chips.P), 33);
        CHECK.same("peek", chip.peek(320), 1);

        ClockedChip idle = Chips.at(0, 84, 70, 0);
        CHECK.trace("a change is idle on one page too", idle, read(0, 84), read(1, 70), read(2, 0), read(70, 0),
            read(70, 0), write(70, 0), write(70, 1));

        flagsOfChange("MORE", Chips.MORE, 127, 1, 128, 161);
        flagsOfChange("MORE", Chips.MORE, 255, 0, 0, 34);
        flagsOfChange("LESS", Chips.LESS, 1, 1, 0, 35);
        flagsOfChange("LESS", Chips.LESS, 0, 0, 255, 160);
        flagsOfChange("LEFT", Chips.LEFT, 128, 0, 0, 35);
        flagsOfChange("LEFT", Chips.LEFT, 64, 1, 128, 160);
        flagsOfChange("LEFT takes no C in", Chips.LEFT, 1, 1, 2, 32);
        flagsOfChange("RIGHT", Chips.RIGHT, 1, 0, 0, 35);
        flagsOfChange("RIGHT", Chips.RIGHT, 254, 1, 127, 32);
        flagsOfChange("RIGHT takes no C in", Chips.RIGHT, 255, 1, 127, 33);
    }

    private static void flagsOfChange(String what, int operation, int b, int p, int changed, int newP) {
        ClockedChip chip = Chips.at(0, Chips.code(operation, 1), 9);
        chip.poke(9, b);
        chip.set(Chips.P, p);
        chip.cycles(5);
        CHECK.same(what + " of " + b, chip.peek(9), changed);
        CHECK.same("P of " + what + " of " + b, chip.register(Chips.P), newP);
    }

    /** Rows: code, A, X, Y, S, P before; A, X, Y, S, P behind it. */
    private static void withoutOperand() {
        int[][] rows = {
            {0, 1, 2, 3, 4, 239, 1, 2, 3, 4, 239},
            {1, 1, 255, 3, 4, 128, 1, 0, 3, 4, 34},
            {1, 1, 127, 3, 4, 2, 1, 128, 3, 4, 160},
            {2, 1, 0, 3, 4, 1, 1, 255, 3, 4, 161},
            {2, 1, 1, 3, 4, 0, 1, 0, 3, 4, 34},
            {3, 1, 2, 255, 4, 128, 1, 2, 0, 4, 34},
            {3, 1, 2, 127, 4, 2, 1, 2, 128, 4, 160},
            {4, 1, 2, 0, 4, 64, 1, 2, 255, 4, 224},
            {4, 1, 2, 1, 4, 0, 1, 2, 0, 4, 34},
            {5, 200, 2, 3, 4, 2, 200, 200, 3, 4, 160},
            {5, 0, 2, 3, 4, 0, 0, 0, 3, 4, 34},
            {6, 1, 200, 3, 4, 2, 200, 200, 3, 4, 160},
            {6, 1, 0, 3, 4, 0, 0, 0, 3, 4, 34},
            {7, 200, 2, 3, 4, 2, 200, 2, 200, 4, 160},
            {7, 0, 2, 3, 4, 0, 0, 2, 0, 4, 34},
            {8, 1, 2, 200, 4, 2, 200, 2, 200, 4, 160},
            {8, 1, 2, 0, 4, 0, 0, 2, 0, 4, 34},
            {9, 1, 2, 3, 4, 239, 1, 2, 3, 4, 238},
            {10, 1, 2, 3, 4, 0, 1, 2, 3, 4, 33},
            {11, 1, 2, 3, 4, 239, 1, 2, 3, 4, 235},
            {12, 1, 2, 3, 4, 0, 1, 2, 3, 4, 36},
            {13, 1, 2, 3, 4, 239, 1, 2, 3, 4, 231},
            {14, 1, 2, 3, 4, 0, 1, 2, 3, 4, 40},
            {15, 1, 0, 3, 4, 128, 1, 0, 3, 0, 160},
            {15, 1, 255, 3, 4, 2, 1, 255, 3, 255, 34},
        };
        for (int[] row : rows) {
            int code = Chips.code(row[0], 7);
            ClockedChip chip = Chips.at(700, code, 123);
            for (int i = 0; i < 4; i++) {
                chip.set(i, row[1 + i]);
            }
            chip.set(Chips.P, row[5]);
            CHECK.trace("mode 7 of " + row[0], chip, read(700, code), read(701, 123));
            CHECK.registers("mode 7 of " + row[0], chip, row[6], row[7], row[8], row[9], 701, row[10], 0, 0);
        }
    }

    private static void stack() {
        ClockedChip chip = Chips.at(0, Chips.PUSH_A, Chips.PUSH_FLAGS, Chips.PULL_A, Chips.PULL_FLAGS, 55);
        chip.set(Chips.A, 93);
        chip.set(Chips.P, 207);
        CHECK.trace("PUSH A", chip, read(0, 135), read(1, 151), write(256, 93));
        CHECK.same("S goes round", chip.register(Chips.S), 255);
        CHECK.trace("PUSH FLAGS", chip, read(1, 151), read(2, 143), write(511, 239));
        CHECK.trace("PULL A", chip, read(2, 143), read(3, 159), read(510, 0), read(511, 239));
        CHECK.registers("PULL A", chip, 239, 0, 0, 255, 3, 237);
        CHECK.trace("PULL FLAGS", chip, read(3, 159), read(4, 55), read(511, 239), read(256, 93));
        CHECK.registers("PULL FLAGS", chip, 239, 0, 0, 0, 4, 32 + (93 & 207));

        ClockedChip zero = Chips.at(0, Chips.PULL_A);
        zero.set(Chips.A, 7);
        zero.set(Chips.P, 128);
        zero.cycles(4);
        CHECK.registers("PULL A of 0", zero, 0, 0, 0, 1, 1, 34);
    }

    private static void jumps() {
        ClockedChip chip = Chips.at(0x05fe, Chips.CALL, 4, 3);
        Chips.put(chip, 0x0304, Chips.JUMP, 8, 255);
        Chips.put(chip, 0x0308, Chips.RETURN, 66);
        chip.set(Chips.S, 1);
        CHECK.trace("CALL", chip, read(0x05fe, 203), read(0x05ff, 4), read(257, 0), write(257, 6), write(256, 0),
            read(0x0600, 3));
        CHECK.registers("CALL", chip, 0, 0, 0, 255, 0x0304, 32, 0, 0);
        CHECK.trace("JUMP", chip, read(0x0304, 195), read(0x0305, 8), read(0x0306, 255));
        CHECK.registers("JUMP", chip, 0, 0, 0, 255, 0xff08, 32, 0, 0);
        CHECK.trace("RETURN", chip, read(0xff08, 167), read(0xff09, 66), read(511, 4), read(256, 0), read(257, 6),
            read(0x0600, 3));
        CHECK.registers("RETURN", chip, 0, 0, 0, 1, 0x0601, 32, 0, 0);

        ClockedChip round = Chips.at(20, Chips.RETURN);
        Chips.put(round, 257, 255, 255);
        CHECK.trace("RETURN to 65535", round, read(20, 167), read(21, 0), read(256, 0), read(257, 255),
            read(258, 255), read(65535, 0));
        CHECK.same("PC goes round", round.register(Chips.PC), 0);

        ClockedChip back = Chips.at(20, Chips.RETURN_FROM_INTERRUPT);
        Chips.put(back, 256, 4, 3);
        Chips.put(back, 511, 255);
        back.set(Chips.S, 254);
        CHECK.trace("RETURN FROM INTERRUPT", back, read(20, 175), read(21, 0), read(510, 0), read(511, 255),
            read(256, 4), read(257, 3));
        CHECK.registers("RETURN FROM INTERRUPT", back, 0, 0, 0, 1, 0x0304, 239, 0, 0);
    }

    private static void branches() {
        int[] flags = {128, 64, 1, 2};
        for (int operation = 16; operation < 24; operation++) {
            int flag = flags[(operation - 16) / 2];
            boolean ifOne = operation % 2 == 1;
            branch(operation, ifOne ? flag : 207 - flag, true);
            branch(operation, ifOne ? 207 - flag : flag, false);
        }
        ClockedChip back = Chips.at(254, 176, 254);
        CHECK.trace("back over a page", back, read(254, 176), read(255, 254), read(256, 0), read(0x01fe, 0),
            read(254, 176));
        ClockedChip least = Chips.at(600, 176, 128);
        CHECK.trace("-128", least, read(600, 176), read(601, 128), read(602, 0), read(730, 0), read(474, 0));
        ClockedChip most = Chips.at(512, 176, 127);
        CHECK.trace("127", most, read(512, 176), read(513, 127), read(514, 0), read(641, 0));
        ClockedChip round = Chips.at(65530, 176, 10);
        CHECK.trace("PC goes round", round, read(65530, 176), read(65531, 10), read(65532, 0), read(65286, 0),
            read(6, 0));
        ClockedChip zero = Chips.at(254, 176, 0);
        CHECK.trace("0 from a page's first", zero, read(254, 176), read(255, 0), read(256, 0), read(256, 0));
    }

    private static void branch(int operation, int p, boolean taken) {
        int code = Chips.code(operation, 0);
        ClockedChip chip = Chips.at(30, code, 20);
        chip.set(Chips.P, p);
        String what = "branch " + operation + " with " + p;
        CHECK.trace(what, chip, read(30, code), read(31, 20));
        CHECK.same(what + " is done", chip.register(Chips.DONE), taken ? 2 : 0);
        CHECK.trace(what, chip, read(32, 0));
        CHECK.same(what + ", PC", chip.register(Chips.PC), taken ? 52 : 33);
    }

    private static void breaks() {
        ClockedChip chip = Chips.at(0x01fe, Chips.BREAK, 88);
        Chips.put(chip, 1022, 3, 2);
        chip.set(Chips.P, 203);
        chip.set(Chips.S, 1);
        CHECK.trace("BREAK", chip, read(0x01fe, 183), read(0x01ff, 88), write(257, 2), write(256, 0),
            write(511, 251), read(65534, 3), read(65535, 2), read(0x0203, 0));
        CHECK.registers("BREAK", chip, 0, 0, 0, 254, 0x0204, 239, 0, 1);
    }

    private static void jams() {
        int jams = 0;
        for (int code = 0; code < 256; code++) {
            ClockedChip chip = Chips.at(5, code);
            chip.poke(1023, 19);
            chip.cycle();
            CHECK.same("jam of " + code, chip.register(Chips.JAMMED) == 1, isJam(code >> 3, code & 7));
            if (chip.register(Chips.JAMMED) == 1) {
                jams++;
                CHECK.trace("jam of " + code, chip, read(65535, 19), read(65535, 19), read(65535, 19));
                CHECK.registers("jam of " + code, chip, 0, 0, 0, 0, 6, 32, 1, 1);
            }
        }
        CHECK.same("codes that jam", jams, 256 - (10 * 7 - 1) - 4 * 4 - 8 - 2 - 23);
    }

    private static boolean isJam(int operation, int mode) {
        if (mode == 7) {
            return operation > 22;
        }
        if (operation < 10) {
            return operation == 1 && mode == 0;
        }
        if (operation < 14) {
            return mode == 0 || mode > 4;
        }
        if (operation >= 16 && operation < 24) {
            return mode != 0;
        }
        return operation < 24 || operation > 25 || mode != 3;
    }

    private static void addresses() {
        ClockedChip chip = Chips.at(65535, 3, 60, 60);
        chip.poke(15420, 9);
        CHECK.trace("PC goes round", chip, read(65535, 3), read(0, 60), read(1, 60), read(15420, 9));
        ClockedChip beyond = Chips.at(1030, 7, 8);
        CHECK.trace("beyond ten bits", beyond, read(1030, 7), read(1031, 8));
        ClockedChip immediate = Chips.at(65535, 0, 77);
        CHECK.trace("immediate goes round", immediate, read(65535, 0), read(0, 77));
        CHECK.registers("immediate goes round", immediate, 77, 0, 0, 0, 1, 32);
    }
}
