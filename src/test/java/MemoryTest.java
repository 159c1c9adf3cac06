/** Promises 2 and 3: poke and peek. */
public final class MemoryTest {
    public static void main(String[] args) {
        Check check = new Check();
        for (int first = 0; first < 1024; first += 128) {
            ClockedChip chip = new ClockedChip();
            for (int a = first; a < first + 128; a++) {
                check.same("poke " + a, chip.poke(a, a * 7 + 1), 0);
            }
            for (int a = first; a < first + 128; a++) {
                check.same("peek " + a, chip.peek(a), (a * 7 + 1) & 255);
            }
            check.same("a byte beside", chip.peek(first - 1), 0);
            check.same("a byte behind", chip.peek(first + 128), 0);
        }

        ClockedChip chip = new ClockedChip();
        check.same("poke 256", chip.poke(5, 256), 0);
        check.same("poke 511", chip.poke(5, 511), 0);
        check.same("poke -1", chip.poke(5, -1), 255);
        check.same("poke -2", chip.poke(5, -2), 255);
        check.same("poke the least", chip.poke(5, Integer.MIN_VALUE), 254);
        check.same("poke the most", chip.poke(5, Integer.MAX_VALUE), 0);
        check.same("peek", chip.peek(5), 255);

        check.same("beyond ten bits", chip.poke(1024 + 6, 77), 0);
        check.same("low ten bits", chip.peek(6), 77);
        check.same("beyond sixteen bits", chip.peek(65536 + 6), 77);
        check.same("below 0", chip.peek(6 - 1024), 77);
        check.same("address -1", chip.poke(-1, 9), 0);
        check.same("its low ten bits", chip.peek(1023), 9);
        check.same("address 65535", chip.peek(65535), 9);
        check.same("the most", chip.peek(Integer.MAX_VALUE), 9);
        check.same("the least", chip.poke(Integer.MIN_VALUE, 3), 0);
        check.same("address 0", chip.peek(0), 3);
        check.registers("no register", chip, 0, 0, 0, 0, 0, 32, 0, 0);

        ClockedChip during = Chips.at(0, Chips.code(Chips.LOAD_A, 1), 50);
        during.cycles(2);
        during.poke(50, 8);
        check.trace("poke before the reading", during, Chips.read(50, 8));

        ClockedChip changing = Chips.at(0, Chips.code(Chips.MORE, 1), 50);
        changing.poke(50, 8);
        changing.cycles(3);
        changing.poke(50, 90);
        check.trace("poke behind the reading", changing, Chips.write(50, 8), Chips.write(50, 9));
        check.finish();
    }
}
