/** Counts the answers that are not due and prints each of them. */
final class Check {
    /** A call of which only the exception matters. */
    interface Call {
        void run();
    }

    private int wrong;

    void same(String what, long got, long due) {
        if (got != due) {
            wrong++;
            System.out.println(what + ": " + got + ", due is " + due);
        }
    }

    void same(String what, boolean got, boolean due) {
        same(what, got ? 1 : 0, due ? 1 : 0);
    }

    /** The very class is asked for: one of its subclasses would be another exception. Null asks for none at all. */
    void fails(String what, Class<? extends RuntimeException> due, Call call) {
        Class<?> got = null;
        try {
            call.run();
        } catch (RuntimeException e) {
            got = e.getClass();
        }
        if (got != due) {
            wrong++;
            System.out.println(what + ": threw " + got + ", due is " + due);
        }
    }

    /** Runs a cycle for each answer that is due. */
    void trace(String what, ClockedChip chip, int... due) {
        for (int i = 0; i < due.length; i++) {
            int got = chip.cycle();
            if (got != due[i]) {
                wrong++;
                System.out.println(what + ", cycle " + (i + 1) + ": " + told(got) + ", due is " + told(due[i]));
            }
        }
    }

    void registers(String what, ClockedChip chip, int... due) {
        for (int i = 0; i < due.length; i++) {
            same(what + ", register " + i, chip.register(i), due[i]);
        }
    }

    void finish() {
        if (wrong != 0) {
            System.out.println(wrong + " answers are not due");
            System.exit(1);
        }
    }

    private static String told(int answer) {
        return ((answer & 256) != 0 ? "write " : "read ") + (answer >> 9) + ":" + (answer & 255);
    }
}
