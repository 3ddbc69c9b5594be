/** Promise 5, run, and promise 9, steps. */
final class RunTest {
    private static final Check CHECK = new Check();

    public static void main(String[] args) {
        ratios();
        firstStepsBeforeSecond();
        endsWhenBothStand();
        oneStandsAlone();
        stepToStandCounts();
        longRun();
        wrongInputs();
        CHECK.end();
    }

    /** Each machine counts its own rounds in X: a round is two steps. */
    private static Bench counting() {
        return new Bench().start(0, 0x200, "E8 4C 00 02").start(1, 0x300, "E8 4C 00 03");
    }

    private static void ratios() {
        for (int ratio = 0; ratio <= 4; ratio++) {
            Bench bench = counting();
            CHECK.same("run 10 " + ratio, bench.cores.run(10, ratio), 10);
            CHECK.same("steps 0", bench.cores.steps(0), 10);
            CHECK.same("steps 1", bench.cores.steps(1), 10 * ratio);
            CHECK.same("X of 0", bench.cores.register(0, Bench.X), 5);
            CHECK.same("X of 1", bench.cores.register(1, Bench.X), 5 * ratio);
            CHECK.same("run 0", bench.cores.run(0, ratio), 0);
            CHECK.same("steps 0 after run 0", bench.cores.steps(0), 10);
            CHECK.same("run 1", bench.cores.run(1, ratio), 1);
            CHECK.same("steps go on", bench.cores.steps(1), 11 * ratio);
        }
    }

    /** Machine 1 reads in the very time in which machine 0 wrote. */
    private static void firstStepsBeforeSecond() {
        Bench bench = new Bench().start(0, 0x200, "A9 5A 8D E1 FE").start(1, 0x300, "EA AD F9 FE");
        bench.cores.run(2, 1);
        CHECK.same("machine 1 reads what came", bench.cores.register(1, Bench.A), 0x5A);
        Bench other = new Bench().start(0, 0x200, "EA AD E1 FE").start(1, 0x300, "A9 5A 8D F9 FE");
        other.cores.run(2, 1);
        CHECK.same("machine 0 read before it came", other.cores.register(0, Bench.A), 0);
        CHECK.same("it waits", other.cores.waits(0, 1), 1);
    }

    private static void endsWhenBothStand() {
        Bench bench = new Bench();
        CHECK.same("both stand at first", bench.cores.run(4000, 4), 0);
        bench.start(0, 0x200, "EA EA 02").start(1, 0x300, "EA EA EA EA EA EA EA 02");
        CHECK.same("times till the later one stands", bench.cores.run(100, 2), 4);
        CHECK.same("0 stands", bench.cores.register(0, Bench.STANDS), 1);
        CHECK.same("1 stands", bench.cores.register(1, Bench.STANDS), 1);
        CHECK.same("PC of 0 at it", bench.cores.register(0, Bench.PC), 0x202);
        CHECK.same("PC of 1 at it", bench.cores.register(1, Bench.PC), 0x307);
        CHECK.same("no time more", bench.cores.run(100, 2), 0);
    }

    private static void oneStandsAlone() {
        Bench bench = new Bench().start(1, 0x300, "E8 4C 00 03");
        CHECK.same("0 stands, 1 goes on", bench.cores.run(7, 2), 7);
        CHECK.same("0 did no step", bench.cores.steps(0), 0);
        CHECK.same("1 did its steps", bench.cores.steps(1), 14);
        CHECK.same("1 goes on, though ratio is 0", bench.cores.run(9, 0), 9);
        CHECK.same("without a step", bench.cores.steps(1), 14);
        Bench other = new Bench().start(0, 0x200, "E8 4C 00 02");
        CHECK.same("1 stands, 0 goes on", other.cores.run(7, 4), 7);
        CHECK.same("1 did no step", other.cores.steps(1), 0);
    }

    private static void stepToStandCounts() {
        Bench bench = new Bench().start(0, 0x200, "EA 02").start(1, 0x300, "02");
        CHECK.same("times", bench.cores.run(50, 3), 2);
        CHECK.same("the step that comes to stand is one", bench.cores.steps(0), 2);
        CHECK.same("none follows it", bench.cores.steps(1), 1);
    }

    private static void longRun() {
        Bench bench = counting();
        CHECK.same("the most", bench.cores.run(4000, 4), 4000);
        CHECK.same("steps 0", bench.cores.steps(0), 4000);
        CHECK.same("steps 1", bench.cores.steps(1), 16000);
        CHECK.same("X of 0", bench.cores.register(0, Bench.X), 2000 % 256);
        CHECK.same("X of 1", bench.cores.register(1, Bench.X), 8000 % 256);
    }

    private static void wrongInputs() {
        Bench bench = counting();
        int[] noTimes = {-1, 4001, Integer.MIN_VALUE, Integer.MAX_VALUE};
        for (int n : noTimes) {
            CHECK.noArgument("run " + n, () -> bench.cores.run(n, 1));
        }
        int[] noRatios = {-1, 5, Integer.MIN_VALUE, Integer.MAX_VALUE};
        for (int ratio : noRatios) {
            CHECK.noArgument("run with ratio " + ratio, () -> bench.cores.run(3, ratio));
            CHECK.noArgument("run 0 with ratio " + ratio, () -> bench.cores.run(0, ratio));
        }
        int[] noMachines = {-1, 2, Integer.MIN_VALUE, Integer.MAX_VALUE};
        for (int m : noMachines) {
            CHECK.noIndex("steps " + m, () -> bench.cores.steps(m));
        }
        CHECK.same("nothing ran", bench.cores.steps(0) + bench.cores.steps(1), 0);
        TwinCores standing = new TwinCores();
        CHECK.noArgument("refused though both stand", () -> standing.run(4001, 1));
    }
}
