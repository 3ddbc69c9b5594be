/** The edges of 'LINES' and 'BREAKS': when a line comes on and goes off, and what a break leaves. */
final class LineEdgeTest {
    private static final int NOBODY = 0x300;
    private static final int BY_IRQ = 0x480;
    private static final int BY_NMI = 0x4C0;
    private static final Check CHECK = new Check();

    public static void main(String[] args) {
        CHECK.test("IRQ of machine 0: Q, and a byte of port 4 waits", LineEdgeTest::irqOfFirst);
        CHECK.test("IRQ of machine 1: I, and one of port 1 does", () -> irqOfSecond(Bench.FLAG_I, 1));
        CHECK.test("IRQ of machine 1: J, and one of port 4", () -> irqOfSecond(Bench.FLAG_J, 4));
        CHECK.test("IRQ of machine 1: I with port 4, J with port 1, none", LineEdgeTest::irqCrossed);
        CHECK.test("IRQ, when I is 0: from the very next step on", LineEdgeTest::irqAfterEachWay);
        CHECK.test("IRQ: none once I is 1", LineEdgeTest::irqNotWithI);
        CHECK.test("NMI: port 3 has 1", LineEdgeTest::nmiByOne);
        CHECK.test("NMI: with V 2", LineEdgeTest::nmiByTwo);
        CHECK.test("NMI: V becomes 0 with one waiting", LineEdgeTest::nmiByV);
        CHECK.test("NMI: V becomes 1 and 0 with one waiting", LineEdgeTest::nmiByVTwice);
        CHECK.test("NMI: with V a second byte goes and comes", LineEdgeTest::nmiAgain);
        CHECK.test("NMI: whether I is 0 or 1", LineEdgeTest::nmiNotMasked);
        CHECK.test("NMI: was not before the instruction before", LineEdgeTest::nmiOnlyWhenItComesOn);
        CHECK.test("NMI: a break is a step, so the line is looked at before it", LineEdgeTest::nmiOffAtBreak);
        CHECK.test("NMI: or at RESET", LineEdgeTest::nmiAtReset);
        CHECK.test("NMI: machine 0 has none", LineEdgeTest::nmiNotOfFirst);
        CHECK.test("else IRQ: NMI first", LineEdgeTest::nmiBeforeIrq);
        CHECK.test("PC and P (bit 5, not 4) on the stack", LineEdgeTest::whatIsPut);
        CHECK.test("the stack of a break goes round", LineEdgeTest::stackGoesRound);
        CHECK.test("A break is a step of its own", LineEdgeTest::aStepOfItsOwn);
        CHECK.test("STANDS till RESET: no break wakes it", LineEdgeTest::standsTillReset);
        CHECK.test("STANDS: a break comes before a code to stand at", LineEdgeTest::breakBeforeStanding);
        CHECK.end();
    }

    /** A machine is at $300 with I 0, among codes that do nothing; its words for breaks are set. */
    private static Bench ready(int machine, int p) {
        Bench bench = new Bench().put(machine, NOBODY, "EA EA EA EA EA EA EA EA");
        bench.vector(machine, 0xFFFE, BY_IRQ).put(machine, BY_IRQ, "EA EA EA EA");
        bench.vector(machine, 0xFFFA, BY_NMI).put(machine, BY_NMI, "EA EA EA EA");
        return bench.stateAt(machine, NOBODY, 0, 0, 0, 0xFD, p);
    }

    private static void goesTo(String what, Bench bench, int machine, int due) {
        bench.go(machine, 1);
        CHECK.same(what, bench.cores.register(machine, Bench.PC), due);
    }

    private static Bench toSecond(Bench bench, int port) {
        return bench.firstWrites(Bench.portPlace(0, 2 * port - 1), 0x31);
    }

    /** Machine 0 is ready with a byte of port 4 before it, or none, and with flags. */
    private static Bench firstReady(int flags, boolean waits) {
        Bench bench = new Bench().flags(Bench.SET | flags);
        if (waits) {
            bench.secondWrites(Bench.portPlace(1, 7), 0x31);
        }
        bench.vector(0, 0xFFFE, BY_IRQ).vector(0, 0xFFFA, BY_NMI).put(0, BY_IRQ, "AD E7 FE 40");
        return bench.start(0, NOBODY, "58 EA EA EA").first(1);
    }

    private static void irqOfFirst() {
        goesTo("both", firstReady(Bench.FLAG_Q, true), 0, BY_IRQ);
        goesTo("Q alone", firstReady(Bench.FLAG_Q, false), 0, NOBODY + 2);
        goesTo("the byte alone", firstReady(0, true), 0, NOBODY + 2);
        goesTo("the other flags", firstReady(Bench.FLAG_I | Bench.FLAG_J | Bench.FLAG_M | Bench.FLAG_V, true), 0, NOBODY + 2);
        Bench bench = firstReady(Bench.FLAG_Q, true).first(3);
        CHECK.same("the byte was read, and back", bench.cores.register(0, Bench.PC), NOBODY + 1);
        goesTo("the line is off", bench, 0, NOBODY + 2);
    }

    private static void irqOfSecond(int flag, int port) {
        Bench bench = toSecond(ready(1, 0x20), port);
        goesTo("the byte alone", bench, 1, NOBODY + 1);
        bench.flags(Bench.SET | flag);
        goesTo("both", bench, 1, BY_IRQ);
        Bench flagFirst = ready(1, 0x20).flags(Bench.SET | flag);
        goesTo("the flag alone", flagFirst, 1, NOBODY + 1);
        goesTo("both, the flag before", toSecond(flagFirst, port), 1, BY_IRQ);
        Bench off = toSecond(ready(1, 0x20), port).flags(Bench.SET | flag).flags(flag);
        goesTo("the flag became 0 before the step", off, 1, NOBODY + 1);
    }

    private static void irqCrossed() {
        goesTo("I with 4", toSecond(ready(1, 0x20), 4).flags(Bench.SET | Bench.FLAG_I), 1, NOBODY + 1);
        goesTo("J with 1", toSecond(ready(1, 0x20), 1).flags(Bench.SET | Bench.FLAG_J), 1, NOBODY + 1);
        Bench others = toSecond(toSecond(ready(1, 0x20), 2), 3);
        goesTo("2 and 3", others.flags(Bench.SET | Bench.FLAG_I | Bench.FLAG_J | Bench.FLAG_Q), 1, NOBODY + 1);
        Bench either = toSecond(ready(1, 0x20), 4).flags(Bench.SET | Bench.FLAG_I | Bench.FLAG_J);
        goesTo("one of both is enough", either, 1, BY_IRQ);
    }

    /** I becomes 0 by CLI, PLP or RTI. */
    private static void irqAfterEachWay() {
        String[] codes = {"58", "28", "40"};
        for (String code : codes) {
            Bench bench = new Bench().flags(Bench.SET | Bench.FLAG_I).firstWrites(Bench.portPlace(0, 1), 1);
            bench.vector(1, 0xFFFE, BY_IRQ).put(1, NOBODY, code + " EA EA").put(1, 0x1F1, "20 01 03");
            bench.stateAt(1, NOBODY, 0, 0, 0, 0xF0, 0x24);
            goesTo("I was 1 before " + code, bench, 1, NOBODY + 1);
            goesTo("behind " + code, bench, 1, BY_IRQ);
        }
    }

    private static void irqNotWithI() {
        Bench bench = toSecond(ready(1, 0x24), 1).flags(Bench.SET | Bench.FLAG_I);
        goesTo("I is 1", bench, 1, NOBODY + 1);
        bench = toSecond(ready(1, 0x20), 1).flags(Bench.SET | Bench.FLAG_I);
        goesTo("it broke in", bench, 1, BY_IRQ);
        goesTo("I is 1 in its code", bench, 1, BY_IRQ + 1);
        bench = ready(1, 0x20).put(1, NOBODY, "78 EA").second(1);
        goesTo("behind SEI", toSecond(bench, 1).flags(Bench.SET | Bench.FLAG_I), 1, NOBODY + 2);
    }

    private static void nmiByOne() {
        Bench bench = ready(1, 0x24).flags(Bench.SET | Bench.FLAG_M);
        goesTo("none waits", bench, 1, NOBODY + 1);
        goesTo("one waits", toSecond(bench, 3), 1, BY_NMI);
        bench = toSecond(ready(1, 0x24), 3);
        goesTo("without M", bench, 1, NOBODY + 1);
        bench = toSecond(toSecond(toSecond(ready(1, 0x24), 1), 2), 4).flags(Bench.SET | Bench.FLAG_M);
        goesTo("other ports", bench, 1, NOBODY + 1);
    }

    private static void nmiByTwo() {
        Bench bench = ready(1, 0x24).flags(Bench.SET | Bench.FLAG_M | Bench.FLAG_V);
        goesTo("none waits", bench, 1, NOBODY + 1);
        goesTo("one waits", toSecond(bench, 3), 1, NOBODY + 2);
        goesTo("two wait", toSecond(bench, 3), 1, BY_NMI);
    }

    private static void nmiByV() {
        Bench bench = ready(1, 0x24).flags(Bench.SET | Bench.FLAG_M | Bench.FLAG_V);
        goesTo("one waits", toSecond(bench, 3), 1, NOBODY + 1);
        goesTo("and is enough without V", bench.flags(Bench.FLAG_V), 1, BY_NMI);
    }

    private static void nmiByVTwice() {
        Bench bench = toSecond(ready(1, 0x24).flags(Bench.SET | Bench.FLAG_M), 3);
        goesTo("one waits", bench, 1, BY_NMI);
        goesTo("V turns the line off", bench.flags(Bench.SET | Bench.FLAG_V), 1, BY_NMI + 1);
        goesTo("and on", bench.flags(Bench.FLAG_V), 1, BY_NMI);
    }

    private static void nmiAgain() {
        Bench bench = ready(1, 0x24).put(1, BY_NMI, "AD FD FE EA").flags(Bench.SET | Bench.FLAG_M | Bench.FLAG_V);
        goesTo("two wait", toSecond(toSecond(bench, 3), 3), 1, BY_NMI);
        goesTo("one of them goes", bench, 1, BY_NMI + 3);
        goesTo("off for a step", bench, 1, BY_NMI + 4);
        goesTo("one comes", toSecond(bench, 3), 1, BY_NMI);
    }

    private static void nmiNotMasked() {
        for (int p = 0x20; p <= 0x24; p += 4) {
            Bench bench = toSecond(ready(1, p).flags(Bench.SET | Bench.FLAG_M), 3);
            goesTo("P " + p, bench, 1, BY_NMI);
            CHECK.same("I is 1 then", bench.cores.register(1, Bench.P), 0x24);
        }
    }

    private static void nmiOnlyWhenItComesOn() {
        Bench bench = toSecond(ready(1, 0x24).flags(Bench.SET | Bench.FLAG_M), 3);
        goesTo("it comes on", bench, 1, BY_NMI);
        for (int i = 1; i <= 3; i++) {
            goesTo("it stays on", bench, 1, BY_NMI + i);
        }
        bench.flags(Bench.FLAG_M).flags(Bench.SET | Bench.FLAG_M);
        goesTo("off and on between two steps", bench, 1, BY_NMI + 4);
        goesTo("off", bench.put(1, BY_NMI + 4, "EA").flags(Bench.FLAG_M), 1, BY_NMI + 5);
        goesTo("on", bench.flags(Bench.SET | Bench.FLAG_M), 1, BY_NMI);
        bench = toSecond(ready(1, 0x24), 3).flags(Bench.SET | Bench.FLAG_M).flags(Bench.FLAG_M);
        goesTo("on and off between two steps", bench, 1, NOBODY + 1);
    }

    private static void nmiOffAtBreak() {
        Bench bench = toSecond(ready(1, 0x20).flags(Bench.SET | Bench.FLAG_M), 3).put(1, BY_NMI, "58 EA");
        goesTo("it comes on", bench, 1, BY_NMI);
        goesTo("CLI", bench, 1, BY_NMI + 1);
        goesTo("off, and IRQ", toSecond(bench, 1).flags(Bench.FLAG_M).flags(Bench.SET | Bench.FLAG_I), 1, BY_IRQ);
        goesTo("on behind the break by IRQ", bench.flags(Bench.SET | Bench.FLAG_M), 1, BY_NMI);
        goesTo("not again behind its own", bench, 1, BY_NMI + 1);
    }

    private static void nmiAtReset() {
        Bench bench = toSecond(ready(1, 0x24).flags(Bench.SET | Bench.FLAG_M), 3).start(1, NOBODY, "EA EA EA EA");
        goesTo("on at RESET", bench, 1, NOBODY + 1);
        goesTo("still on", bench, 1, NOBODY + 2);
        goesTo("off", bench.flags(Bench.FLAG_M), 1, NOBODY + 3);
        goesTo("on", bench.flags(Bench.SET | Bench.FLAG_M), 1, BY_NMI);
        bench = ready(1, 0x24).flags(Bench.SET | Bench.FLAG_M).start(1, NOBODY, "EA EA");
        goesTo("off at RESET, on before the first instruction", toSecond(bench, 3), 1, BY_NMI);
        bench = toSecond(ready(1, 0x24).flags(Bench.SET | Bench.FLAG_M), 3).second(1).flags(Bench.FLAG_M);
        bench.start(1, NOBODY, "EA EA").flags(Bench.SET | Bench.FLAG_M);
        goesTo("on before, off at RESET, on again", bench, 1, BY_NMI);
    }

    /** Bytes come while machine 0 runs at $F00, or go from it, so that a line of its own would come on for it. */
    private static void nmiNotOfFirst() {
        Bench sends = new Bench().flags(Bench.SET | Bench.FLAG_M).vector(0, 0xFFFA, BY_NMI).put(0, BY_NMI, "EA EA EA");
        sends.start(0, NOBODY, "8D E5 FE EA EA EA").first(4);
        CHECK.same("it waits for machine 1", sends.cores.waits(1, 3), 1);
        CHECK.same("machine 0 goes on", sends.cores.register(0, Bench.PC), NOBODY + 6);
        for (int v = 0; v <= Bench.FLAG_V; v += Bench.FLAG_V) {
            Bench bench = new Bench().flags(Bench.SET | Bench.FLAG_M | v).vector(0, 0xFFFA, BY_NMI).put(0, BY_NMI, "EA EA EA");
            bench.start(1, NOBODY, "A9 31 8D FD FE 8D FD FE EA").second(3);
            CHECK.same("they wait for machine 0", bench.cores.waits(0, 3), v == 0 ? 1 : 2);
            for (int i = 0; i < 3; i++) {
                bench.first(1);
                CHECK.same("goes on at $F00", bench.cores.register(0, Bench.PC), 0xF00);
                CHECK.same("nothing on its stack", bench.cores.register(0, Bench.S), 0xFD);
            }
        }
    }

    private static void nmiBeforeIrq() {
        Bench bench = toSecond(toSecond(ready(1, 0x20), 1), 3).flags(Bench.SET | Bench.FLAG_M | Bench.FLAG_I);
        goesTo("both lines are on", bench, 1, BY_NMI);
        goesTo("I is 1 now", bench, 1, BY_NMI + 1);
        bench.put(1, BY_NMI + 1, "58");
        goesTo("CLI", bench, 1, BY_NMI + 2);
        goesTo("NMI does not come on, so IRQ", bench, 1, BY_IRQ);
    }

    private static void whatIsPut() {
        int[] states = {0x20, 0xEB, 0x61};
        for (int p : states) {
            Bench irq = toSecond(ready(1, p), 1).flags(Bench.SET | Bench.FLAG_I);
            goesTo("IRQ", irq, 1, BY_IRQ);
            leaves("IRQ", irq, p);
            Bench nmi = toSecond(ready(1, p), 3).flags(Bench.SET | Bench.FLAG_M);
            goesTo("NMI", nmi, 1, BY_NMI);
            leaves("NMI", nmi, p);
        }
    }

    private static void leaves(String what, Bench bench, int p) {
        CHECK.same(what + ": higher", bench.cores.byteAt(1, 0x1FD), NOBODY >> 8);
        CHECK.same(what + ": lower", bench.cores.byteAt(1, 0x1FC), NOBODY & 0xFF);
        CHECK.same(what + ": P on the stack", bench.cores.byteAt(1, 0x1FB), p);
        CHECK.same(what + ": S", bench.cores.register(1, Bench.S), 0xFA);
        CHECK.same(what + ": P", bench.cores.register(1, Bench.P), p | 4);
    }

    private static void stackGoesRound() {
        for (int s = 0; s < 3; s++) {
            Bench bench = new Bench().vector(1, 0xFFFE, BY_IRQ).put(1, 0x0FF, "71").put(1, 0x200, "72");
            bench.stateAt(1, 0xFFFF, 0, 0, 0, s, 0x20).flags(Bench.SET | Bench.FLAG_I);
            goesTo("IRQ", toSecond(bench, 1), 1, BY_IRQ);
            CHECK.same("S", bench.cores.register(1, Bench.S), s - 3 & 0xFF);
            int[] put = {0xFF, 0xFF, 0x20};
            for (int i = 0; i < 3; i++) {
                CHECK.same("byte " + i + " from S " + s, bench.cores.byteAt(1, 0x100 + (s - i & 0xFF)), put[i]);
            }
            CHECK.same("before the stack", bench.cores.byteAt(1, 0x0FF), 0x71);
            CHECK.same("behind the stack", bench.cores.byteAt(1, 0x200), 0x72);
        }
    }

    private static void aStepOfItsOwn() {
        Bench bench = toSecond(ready(1, 0x20), 1).flags(Bench.SET | Bench.FLAG_I);
        long steps = bench.cores.steps(1);
        bench.put(1, BY_IRQ, "E8 E8 E8").second(1);
        CHECK.same("a break: one step", bench.cores.steps(1), steps + 1);
        CHECK.same("without an instruction", bench.cores.register(1, Bench.X), 0);
        bench.second(2);
        CHECK.same("three steps", bench.cores.steps(1), steps + 3);
        CHECK.same("two instructions", bench.cores.register(1, Bench.X), 2);
    }

    private static void standsTillReset() {
        Bench bench = ready(1, 0x20).put(1, NOBODY, "02").second(1).flags(Bench.SET | Bench.FLAG_M | Bench.FLAG_I);
        long steps = bench.cores.steps(1);
        goesTo("both lines are on", toSecond(toSecond(bench, 1), 3), 1, NOBODY);
        CHECK.same("it stands", bench.cores.register(1, Bench.STANDS), 1);
        CHECK.same("no steps", bench.cores.steps(1), steps);
        CHECK.same("S", bench.cores.register(1, Bench.S), 0xFD);
        bench.put(1, NOBODY, "EA").second(3);
        CHECK.same("nor does another code", bench.cores.register(1, Bench.STANDS), 1);
        bench.start(1, NOBODY, "EA");
        CHECK.same("RESET does", bench.cores.register(1, Bench.STANDS), 0);
    }

    private static void breakBeforeStanding() {
        Bench bench = ready(1, 0x20).put(1, NOBODY, "02").flags(Bench.SET | Bench.FLAG_I);
        goesTo("IRQ", toSecond(bench, 1), 1, BY_IRQ);
        CHECK.same("it does not stand", bench.cores.register(1, Bench.STANDS), 0);
        bench.put(1, BY_IRQ, "40").flags(Bench.FLAG_I).second(2);
        CHECK.same("RTI, and then it does", bench.cores.register(1, Bench.STANDS), 1);
        CHECK.same("at its code", bench.cores.register(1, Bench.PC), NOBODY);
    }
}
