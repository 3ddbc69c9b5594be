/** Promise 4, reset, and promise 6, register. */
final class RegisterTest {
    private static final Check CHECK = new Check();

    public static void main(String[] args) {
        eachRegister();
        resetSetsFour();
        resetLeavesOthers();
        resetOfOneMachine();
        resetWakes();
        wrongInputs();
        CHECK.end();
    }

    private static void registers(String what, Bench bench, int machine, int... due) {
        for (int k = 0; k < 7; k++) {
            CHECK.same(what + ": register " + machine + " " + k, bench.cores.register(machine, k), due[k]);
        }
    }

    private static void eachRegister() {
        Bench bench = new Bench();
        bench.start(0, 0x3200, "A2 12 9A A9 81 A2 34 A0 56 38").first(6);
        registers("set by code", bench, 0, 0x81, 0x34, 0x56, 0x12, 0x25, 0x320A, 0);
        registers("the other one", bench, 1, 0, 0, 0, 0, 0x20, 0, 1);
    }

    private static void resetSetsFour() {
        Bench bench = new Bench();
        bench.put(0, 0xFFC, "CD AB");
        bench.cores.reset(0);
        registers("RESET", bench, 0, 0, 0, 0, 0xFD, 0x24, 0xABCD, 0);
        CHECK.same("RESET by a call is no step", bench.cores.steps(0), 0);
    }

    private static void resetLeavesOthers() {
        Bench bench = new Bench();
        bench.start(1, 0x300, "A9 7F 69 01 A2 34 A0 80 38 F8 58").second(7);
        CHECK.same("P before", bench.cores.register(1, Bench.P), 0xE9);
        bench.firstWrites(0xFEE1, 0x42);
        long steps = bench.cores.steps(1);
        bench.cores.reset(1);
        registers("RESET later", bench, 1, 0x80, 0x34, 0x80, 0xFD, 0xED, 0x300, 0);
        CHECK.same("its steps stay", bench.cores.steps(1), steps);
        CHECK.same("its bytes stay", bench.cores.byteAt(1, 0x301), 0x7F);
        CHECK.same("what waits stays", bench.cores.waits(1, 1), 1);
    }

    private static void resetOfOneMachine() {
        Bench bench = new Bench();
        bench.vector(0, 0xFFFC, 0x1234).vector(1, 0xFFFC, 0x5678);
        bench.cores.reset(1);
        registers("not meant", bench, 0, 0, 0, 0, 0, 0x20, 0, 1);
        registers("meant", bench, 1, 0, 0, 0, 0xFD, 0x24, 0x5678, 0);
    }

    private static void resetWakes() {
        Bench bench = new Bench();
        bench.start(0, 0x200, "02").first(1);
        CHECK.same("stands", bench.cores.register(0, Bench.STANDS), 1);
        CHECK.same("at it", bench.cores.register(0, Bench.PC), 0x200);
        bench.start(0, 0x200, "E8 02").first(1);
        CHECK.same("goes on", bench.cores.register(0, Bench.X), 1);
        CHECK.same("does not stand", bench.cores.register(0, Bench.STANDS), 0);
    }

    private static void wrongInputs() {
        Bench bench = new Bench();
        int[] noMachines = {-1, 2, Integer.MIN_VALUE, Integer.MAX_VALUE};
        for (int m : noMachines) {
            CHECK.noIndex("reset " + m, () -> bench.cores.reset(m));
            CHECK.noIndex("register of machine " + m, () -> bench.cores.register(m, 0));
        }
        int[] noRegisters = {-1, 7, Integer.MIN_VALUE, Integer.MAX_VALUE};
        for (int k : noRegisters) {
            CHECK.noIndex("register " + k, () -> bench.cores.register(0, k));
            CHECK.noIndex("register " + k, () -> bench.cores.register(1, k));
        }
        registers("nothing changed", bench, 0, 0, 0, 0, 0, 0x20, 0, 1);
        registers("nothing changed", bench, 1, 0, 0, 0, 0, 0x20, 0, 1);
    }
}
