/** Objects with a past, made anew at each call, for tests that look at all of their state. */
final class Pasts {
    private Pasts() {
    }

    static final State.Past[] ALL = {TwinCores::new, Pasts::busy, Pasts::held, Pasts::resetDue, Pasts::stood};

    /** Both machines run, every row is full, and machine 1's next step is a break by NMI. */
    static TwinCores busy() {
        Bench bench = new Bench().flags(Bench.SET | Bench.FLAG_Q | Bench.FLAG_M | Bench.FLAG_V);
        bench.vector(0, 0xFFFE, 0x280).put(0, 0x280, "AD E7 FE E8 40");
        bench.vector(1, 0xFFFA, 0x380).put(1, 0x380, "C8 40").vector(1, 0xFFFE, 0x3C0).put(1, 0x3C0, "AD FF FE 40");
        leaveLatestBytes(bench);
        fillFromSecond(bench);
        fillFromFirst(bench);
        return bench.start(0, 0x200, "A9 81 A2 42 A0 24 08 58 AD E1 FE 8D E7 FE 4C 07 02").first(4).cores;
    }

    /** So that an empty row would have another byte to show than 0. */
    private static void leaveLatestBytes(Bench bench) {
        for (int k = 1; k < 8; k += 2) {
            bench.firstWrites(Bench.portPlace(0, k), 0xA0 + k).secondReads(Bench.portPlace(1, k));
            bench.secondWrites(Bench.portPlace(1, k), 0xB0 + k).firstReads(Bench.portPlace(0, k));
        }
    }

    private static void fillFromSecond(Bench bench) {
        String others = "8E FB FE 8E FD FE E8 8E FD FE 8E FF FE";
        bench.start(1, 0x300, "A2 60 8E F9 FE E8 E0 7A D0 F8 " + others + " 58 EE 70 00 4C 18 03").second(1 + 26 * 4 + 8);
    }

    private static void fillFromFirst(Bench bench) {
        bench.start(0, 0x200, "A2 50 8E E1 FE E8 8E E3 FE E8 8E E5 FE E8 8E E5 FE E8 8E E7 FE").first(10);
    }

    /** As busy, and P is 1. */
    static TwinCores held() {
        TwinCores cores = busy();
        writeFlags(cores, Bench.SET | Bench.FLAG_P);
        return cores;
    }

    /** As busy, and P became 1 and 0 again, with no step of machine 1 behind that. */
    static TwinCores resetDue() {
        TwinCores cores = held();
        writeFlags(cores, Bench.FLAG_P);
        return cores;
    }

    /** As busy, but both machines came to stand. */
    static TwinCores stood() {
        TwinCores cores = busy();
        for (int machine = 0; machine < 2; machine++) {
            cores.load(machine, 0x777, 0x02000000, 0, 0, 0, 0, 1);
            cores.load(machine, 0xFFFC, 0x77070000, 0, 0, 0, 0, 2);
            cores.reset(machine);
        }
        cores.run(9, 1);
        return cores;
    }

    private static void writeFlags(TwinCores cores, int flags) {
        cores.load(0, 0xF10, 0xA9008DE0 | flags << 16, 0xFE4C0802, 0, 0, 0, 8);
        cores.load(0, 0xFFFC, 0x100F0000, 0, 0, 0, 0, 2);
        cores.reset(0);
        cores.run(2, 0);
    }
}
