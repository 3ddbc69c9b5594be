/** The breaks, the lines that make them, and flag P, which holds machine 1. */
final class LineTest {
    private static final int FLAGS = 0xFEE0;
    private static final int Q = 0x01;
    private static final int I = 0x02;
    private static final int J = 0x04;
    private static final int M = 0x08;
    private static final int V = 0x10;
    private static final int P = 0x20;
    private static final Check CHECK = new Check();

    public static void main(String[] args) {
        irqOfFirst();
        irqOfFirstNeedsAll();
        irqOfSecond();
        irqGoesOnTillRead();
        nmiBreaksOnce();
        nmiByEachFlag();
        nmiAtReset();
        nmiComesBeforeIrq();
        nmiLineIsLookedAtBeforeSteps();
        breakInstructionAndReturn();
        holdBySecondsFlag();
        holdWakesOneThatStands();
        holdAndCallsOfReset();
        CHECK.end();
    }

    private static void at(String what, Bench bench, int machine, int pc, int s, int p) {
        CHECK.same(what + ": PC", bench.cores.register(machine, Bench.PC), pc);
        CHECK.same(what + ": S", bench.cores.register(machine, Bench.S), s);
        CHECK.same(what + ": P", bench.cores.register(machine, Bench.P), p);
    }

    private static void stack(String what, Bench bench, int machine, int s, String hex) {
        int[] due = Bench.bytesOf(hex);
        for (int i = 0; i < due.length; i++) {
            CHECK.same(what + ": $100 and " + (s + i), bench.cores.byteAt(machine, 0x100 + s + i), due[i]);
        }
    }

    private static void irqOfFirst() {
        Bench bench = new Bench().vector(0, 0xFFFE, 0x480).put(0, 0x480, "EA 40");
        bench.firstWrites(FLAGS, 0x80 | Q).secondWrites(0xFEFF, 0x66);
        bench.start(0, 0x1234, "38 58 EA EA").first(2);
        at("I is 0 now", bench, 0, 0x1236, 0xFD, 0xA1);
        long steps = bench.cores.steps(0);
        bench.first(1);
        at("broke in", bench, 0, 0x480, 0xFA, 0xA5);
        stack("broke in", bench, 0, 0xFB, "A1 36 12");
        CHECK.same("a break is a step", bench.cores.steps(0), steps + 1);
        bench.first(1);
        at("I keeps it off", bench, 0, 0x481, 0xFA, 0xA5);
        bench.first(1);
        at("RTI", bench, 0, 0x1236, 0xFD, 0xA1);
        bench.first(1);
        at("still on, so it breaks in again", bench, 0, 0x480, 0xFA, 0xA5);
    }

    private static void irqOfFirstNeedsAll() {
        for (int flag = Q; flag <= V; flag *= 2) {
            for (int port = 1; port <= 4; port++) {
                Bench bench = new Bench().vector(0, 0xFFFE, 0x480).vector(0, 0xFFFA, 0x700);
                bench.firstWrites(FLAGS, 0x80 | flag).secondWrites(0xFEF7 + 2 * port, 1);
                bench.firstWrites(0xFEDF + 2 * port, 1);
                bench.start(0, 0x200, "58 EA EA EA").first(2);
                boolean due = flag == Q && port == 4;
                CHECK.same("flag " + flag + ", port " + port, bench.cores.register(0, Bench.PC), due ? 0x480 : 0x202);
            }
        }
        Bench masked = new Bench().vector(0, 0xFFFE, 0x480);
        masked.firstWrites(FLAGS, 0x80 | Q).secondWrites(0xFEFF, 1).start(0, 0x200, "EA EA EA").first(2);
        CHECK.same("I is 1", masked.cores.register(0, Bench.PC), 0x202);
    }

    private static void irqOfSecond() {
        for (int flag = Q; flag <= V; flag *= 2) {
            for (int port = 1; port <= 4; port++) {
                Bench bench = new Bench().vector(1, 0xFFFE, 0x480).vector(1, 0xFFFA, 0x700);
                bench.firstWrites(FLAGS, 0x80 | flag).firstWrites(0xFEDF + 2 * port, 1);
                bench.secondWrites(0xFEF7 + 2 * port, 1);
                bench.start(1, 0x200, "58 EA EA EA").second(2);
                boolean due = flag == I && port == 1 || flag == J && port == 4;
                CHECK.same("flag " + flag + ", port " + port, bench.cores.register(1, Bench.PC), due ? 0x480 : 0x202);
            }
        }
        Bench bench = new Bench().vector(1, 0xFFFE, 0x480);
        bench.firstWrites(FLAGS, 0x80 | I | J).firstWrites(0xFEE7, 1);
        bench.start(1, 0x5300, "F8 58 EA").second(3);
        at("broke in", bench, 1, 0x480, 0xFA, 0x2C);
        stack("broke in", bench, 1, 0xFB, "28 02 53");
    }

    private static void irqGoesOnTillRead() {
        Bench bench = new Bench().vector(1, 0xFFFE, 0x480).put(1, 0x480, "AD F9 FE 40");
        bench.firstWrites(FLAGS, 0x80 | I).firstWrites(0xFEE1, 0x7E);
        bench.start(1, 0x300, "58 EA EA").second(4);
        at("back with the byte read", bench, 1, 0x301, 0xFD, 0x20);
        CHECK.same("A", bench.cores.register(1, Bench.A), 0x7E);
        bench.second(2);
        at("no break more", bench, 1, 0x303, 0xFD, 0x20);
    }

    private static Bench nmiBench() {
        Bench bench = new Bench().vector(1, 0xFFFA, 0x700).put(1, 0x700, "EA 40").vector(1, 0xFFFE, 0x480);
        return bench.firstWrites(FLAGS, 0x80 | M);
    }

    private static void nmiBreaksOnce() {
        Bench bench = nmiBench().start(1, 0x300, "EA 4C 00 03").second(1);
        bench.firstWrites(0xFEE5, 0x44);
        long steps = bench.cores.steps(1);
        bench.second(1);
        at("broke in, though I is 1", bench, 1, 0x700, 0xFA, 0x24);
        stack("broke in", bench, 1, 0xFB, "24 01 03");
        CHECK.same("a break is a step", bench.cores.steps(1), steps + 1);
        bench.second(2);
        at("RTI", bench, 1, 0x301, 0xFD, 0x24);
        bench.second(5);
        at("not again while it stays on", bench, 1, 0x300, 0xFD, 0x24);
        bench.firstWrites(FLAGS, M).second(1).firstWrites(FLAGS, 0x80 | M).second(1);
        at("off for a step and on again", bench, 1, 0x700, 0xFA, 0x24);
    }

    private static void nmiByEachFlag() {
        for (int port = 1; port <= 4; port++) {
            Bench bench = nmiBench().start(1, 0x300, "EA EA EA EA").second(1);
            bench.firstWrites(0xFEDF + 2 * port, 1).second(1);
            CHECK.same("port " + port, bench.cores.register(1, Bench.PC), port == 3 ? 0x700 : 0x302);
        }
        for (int flag = Q; flag <= V; flag *= 2) {
            Bench single = nmiBench().firstWrites(FLAGS, M).firstWrites(FLAGS, 0x80 | flag);
            single.start(1, 0x300, "EA EA EA EA").second(1);
            single.firstWrites(0xFEE5, 1).second(1);
            CHECK.same("flag " + flag + " alone", single.cores.register(1, Bench.PC), flag == M ? 0x700 : 0x302);
        }
        Bench bench = nmiBench().firstWrites(FLAGS, 0x80 | V).start(1, 0x300, "EA EA EA EA").second(1);
        bench.firstWrites(0xFEE5, 1).second(1);
        at("with V one is not enough", bench, 1, 0x302, 0xFD, 0x24);
        bench.firstWrites(0xFEE5, 2).second(1);
        at("with V two are", bench, 1, 0x700, 0xFA, 0x24);
        Bench without = nmiBench().start(1, 0x300, "EA EA EA EA").firstWrites(FLAGS, M).second(1);
        without.firstWrites(0xFEE5, 1).second(1);
        at("without M none", without, 1, 0x302, 0xFD, 0x24);
        without.firstWrites(FLAGS, 0x80 | M).second(1);
        at("M alone makes it come on", without, 1, 0x700, 0xFA, 0x24);
        Bench twoLeft = new Bench().vector(1, 0xFFFA, 0x700).firstWrites(FLAGS, 0x80 | V);
        twoLeft.firstWrites(0xFEE5, 1).firstWrites(0xFEE5, 2).start(1, 0x300, "EA EA EA").second(1);
        twoLeft.firstWrites(FLAGS, V).firstWrites(FLAGS, 0x80 | M).second(1);
        at("two are no less than one", twoLeft, 1, 0x700, 0xFA, 0x24);
    }

    private static void nmiAtReset() {
        Bench bench = nmiBench().firstWrites(0xFEE5, 1).start(1, 0x300, "EA EA EA").second(1);
        at("on at RESET, so it does not come on", bench, 1, 0x301, 0xFD, 0x24);
        Bench other = nmiBench().start(1, 0x300, "EA EA EA").firstWrites(0xFEE5, 1).second(1);
        at("came on after RESET, before the first instruction", other, 1, 0x700, 0xFA, 0x24);
        Bench again = nmiBench().firstWrites(0xFEE5, 1).start(1, 0x300, "EA EA").firstWrites(FLAGS, M);
        again.cores.reset(1);
        again.firstWrites(FLAGS, 0x80 | M).second(1);
        at("the latest RESET counts", again, 1, 0x700, 0xFA, 0x24);
    }

    private static void nmiComesBeforeIrq() {
        Bench bench = nmiBench().firstWrites(FLAGS, 0x80 | I).start(1, 0x300, "58 EA EA EA").second(2);
        bench.firstWrites(0xFEE5, 1).firstWrites(0xFEE1, 1).second(1);
        at("NMI first", bench, 1, 0x700, 0xFA, 0x24);
        stack("NMI first", bench, 1, 0xFB, "20 02 03");
        bench.second(2);
        at("back", bench, 1, 0x302, 0xFD, 0x20);
        bench.second(1);
        at("IRQ next", bench, 1, 0x480, 0xFA, 0x24);
        Bench within = nmiBench().firstWrites(FLAGS, 0x80 | I).start(1, 0x300, "58 EA EA").firstWrites(0xFEE1, 1).second(2);
        at("IRQ", within, 1, 0x480, 0xFA, 0x24);
        within.firstWrites(0xFEE5, 1).second(1);
        at("NMI breaks into IRQ's code", within, 1, 0x700, 0xF7, 0x24);
        stack("NMI breaks into IRQ's code", within, 1, 0xF8, "24 80 04 20 01 03");
    }

    private static void nmiLineIsLookedAtBeforeSteps() {
        Bench bench = nmiBench().start(1, 0x300, "EA EA EA EA").second(1);
        bench.firstWrites(0xFEE5, 1).second(1);
        bench.firstWrites(FLAGS, M).firstWrites(FLAGS, 0x80 | M).second(1);
        at("off and on without a step between", bench, 1, 0x701, 0xFA, 0x24);
    }

    private static void breakInstructionAndReturn() {
        Bench bench = new Bench().vector(0, 0xFFFE, 0x1480).put(0, 0x480, "40");
        bench.start(0, 0x2FE, "58 38 00 FF E8 E8").first(3);
        at("BRK", bench, 0, 0x1480, 0xFA, 0x25);
        stack("BRK", bench, 0, 0xFB, "31 02 03");
        bench.first(1);
        at("RTI", bench, 0, 0x302, 0xFD, 0x21);
        bench.first(1);
        CHECK.same("goes on behind the byte behind BRK", bench.cores.register(0, Bench.X), 1);
    }

    private static void holdBySecondsFlag() {
        Bench bench = new Bench().start(1, 0x300, "A2 07 9A 58 E8 4C 04 03").second(9);
        long steps = bench.cores.steps(1);
        int x = bench.cores.register(1, Bench.X);
        bench.firstWrites(FLAGS, 0x80 | P).second(20);
        CHECK.same("held", bench.cores.steps(1), steps);
        CHECK.same("held, it does not stand", bench.cores.register(1, Bench.STANDS), 0);
        CHECK.same("S as it was", bench.cores.register(1, Bench.S), 7);
        bench.firstWrites(FLAGS, P);
        CHECK.same("S till its step", bench.cores.register(1, Bench.S), 7);
        bench.second(1);
        at("RESET", bench, 1, 0x300, 0xFD, 0x24);
        CHECK.same("RESET is a step", bench.cores.steps(1), steps + 1);
        CHECK.same("X stays", bench.cores.register(1, Bench.X), x);
        bench.second(1);
        at("its code from there on", bench, 1, 0x302, 0xFD, 0x24);
        bench.second(1);
        CHECK.same("S, and no RESET more", bench.cores.register(1, Bench.S), 7);
    }

    private static void holdWakesOneThatStands() {
        Bench bench = new Bench().put(1, 0x300, "E8 02").vector(1, 0xFFFC, 0x300);
        bench.start(0, 0x200, "A9 A0 8D E0 FE 02");
        CHECK.same("both stand, P is 1", bench.cores.run(100, 1), 3);
        CHECK.same("1 stands while P is 1", bench.cores.register(1, Bench.STANDS), 1);
        CHECK.same("no step of 1", bench.cores.steps(1), 0);
        bench.start(0, 0x200, "A9 20 8D E0 FE 02");
        CHECK.same("with ratio 0 it goes on, for RESET is due", bench.cores.run(100, 0), 100);
        CHECK.same("1 does not count as standing", bench.cores.register(1, Bench.STANDS), 0);
        CHECK.same("0 stands", bench.cores.register(0, Bench.STANDS), 1);
        CHECK.same("RESET, INX, and it stands", bench.cores.run(100, 1), 3);
        CHECK.same("1 stands", bench.cores.register(1, Bench.STANDS), 1);
        CHECK.same("X of 1", bench.cores.register(1, Bench.X), 1);
        CHECK.same("steps of 1", bench.cores.steps(1), 3);
        CHECK.same("steps of 0", bench.cores.steps(0), 6);
    }

    private static void holdAndCallsOfReset() {
        Bench bench = new Bench().firstWrites(FLAGS, 0x80 | P).start(1, 0x300, "E8 E8 E8");
        at("a call resets at once", bench, 1, 0x300, 0xFD, 0x24);
        CHECK.same("and it does not stand", bench.cores.register(1, Bench.STANDS), 0);
        bench.second(3);
        CHECK.same("but is held", bench.cores.register(1, Bench.X), 0);
        bench.firstWrites(FLAGS, P).cores.reset(1);
        bench.second(2);
        CHECK.same("its first step is RESET all the same", bench.cores.register(1, Bench.X), 1);
        CHECK.same("steps", bench.cores.steps(1), 2);
        Bench line = nmiBench().firstWrites(FLAGS, 0x80 | P).firstWrites(0xFEE5, 1).firstWrites(FLAGS, P);
        line.start(1, 0x300, "E8 E8").second(2);
        at("NMI's line was on at that RESET", line, 1, 0x301, 0xFD, 0x24);
    }
}
