/**
 * 'While P is 1, machine 1 does no steps; once P became 1, it is RESET in place of
 * its first step with P 0 (which counts as one; till then it does not count as
 * standing while P is 0).'
 */
final class HoldEdgeTest {
    private static final String SET_P = "A9 A0 8D E0 FE ";
    private static final String UNSET_P = "A9 20 8D E0 FE ";
    private static final Check CHECK = new Check();

    public static void main(String[] args) {
        CHECK.test("While P is 1, no steps, with any ratio", HoldEdgeTest::noSteps);
        CHECK.test("P holds machine 1 alone", HoldEdgeTest::firstGoesOn);
        CHECK.test("P becomes 1 within a time: no step in that time", HoldEdgeTest::fromThatTimeOn);
        CHECK.test("P becomes 0 within a time: RESET in that time", HoldEdgeTest::tillThatTime);
        CHECK.test("which counts as one", HoldEdgeTest::countsAsOne);
        CHECK.test("RESET: S is $FD, I 1, PC the word at $FFFC; other things stay", HoldEdgeTest::whatResetDoes);
        CHECK.test("once P became 1: though no step fell between", HoldEdgeTest::withoutAStepBetween);
        CHECK.test("once P became 1: RESET comes once", HoldEdgeTest::once);
        CHECK.test("P written 1 twice, or 0 where it is 0", HoldEdgeTest::noChangeOfP);
        CHECK.test("P becomes 1 a second time", HoldEdgeTest::aSecondTime);
        CHECK.test("other flags written while P is 1", HoldEdgeTest::otherFlags);
        CHECK.test("no break while P is 1, and none before RESET", HoldEdgeTest::noBreak);
        CHECK.test("NMI's line at that RESET", HoldEdgeTest::nmiAtThatReset);
        CHECK.test("stands while P is 1", HoldEdgeTest::standsWhileHeld);
        CHECK.test("held, but does not stand: run goes on", HoldEdgeTest::heldIsNotStanding);
        CHECK.test("till then it does not count as standing while P is 0", HoldEdgeTest::notStandingWhenDue);
        CHECK.test("RESET to a code that it stands at", HoldEdgeTest::standsBehindReset);
        CHECK.test("a call of reset while P is 1", HoldEdgeTest::callWhileHeld);
        CHECK.test("P is no flag that machine 1 writes", HoldEdgeTest::secondCannot);
        CHECK.end();
    }

    private static int register(Bench bench, int k) {
        return bench.cores.register(1, k);
    }

    /** Machine 1 counts in X from $300 on. */
    private static Bench counting() {
        return new Bench().start(1, 0x300, "E8 4C 00 03");
    }

    private static Bench heldCounting() {
        return counting().second(6).flags(Bench.SET | Bench.FLAG_P);
    }

    private static void noSteps() {
        for (int ratio = 0; ratio <= 4; ratio++) {
            Bench bench = heldCounting().start(0, 0x200, "4C 00 02");
            CHECK.same("times", bench.cores.run(25, ratio), 25);
            CHECK.same("steps", bench.cores.steps(1), 6);
            CHECK.same("X", register(bench, Bench.X), 3);
            CHECK.same("PC", register(bench, Bench.PC), 0x300);
            CHECK.same("S", register(bench, Bench.S), 0xFD);
        }
    }

    private static void firstGoesOn() {
        Bench bench = heldCounting();
        long steps = bench.cores.steps(0);
        bench.start(0, 0x200, "C8 4C 00 02");
        bench.cores.run(10, 1);
        CHECK.same("steps of 0", bench.cores.steps(0), steps + 10);
        CHECK.same("Y of 0", bench.cores.register(0, Bench.Y), 5);
        bench.flags(Bench.FLAG_P).start(0, 0x200, "EA EA EA").first(2);
        CHECK.same("0 is not RESET", bench.cores.register(0, Bench.PC), 0x202);
    }

    private static void fromThatTimeOn() {
        Bench bench = counting().start(0, 0x200, SET_P + "4C 05 02");
        bench.cores.run(1, 3);
        CHECK.same("steps before", bench.cores.steps(1), 3);
        bench.cores.run(1, 3);
        CHECK.same("P is 1", bench.cores.port(0, 0) & Bench.FLAG_P, Bench.FLAG_P);
        CHECK.same("none in that time", bench.cores.steps(1), 3);
    }

    private static void tillThatTime() {
        for (int ratio = 0; ratio <= 4; ratio++) {
            Bench bench = heldCounting().start(0, 0x200, UNSET_P + "4C 05 02");
            bench.cores.run(1, ratio);
            CHECK.same("none before", bench.cores.steps(1), 6);
            bench.cores.run(1, ratio);
            CHECK.same("steps in that time", bench.cores.steps(1), 6 + ratio);
            CHECK.same("the first was RESET", register(bench, Bench.X), 3 + ratio / 2);
        }
    }

    private static void countsAsOne() {
        Bench bench = heldCounting().flags(Bench.FLAG_P);
        CHECK.same("not yet", bench.cores.steps(1), 6);
        bench.second(1);
        CHECK.same("RESET", bench.cores.steps(1), 7);
        CHECK.same("in place of INX", register(bench, Bench.X), 3);
        bench.second(1);
        CHECK.same("INX", register(bench, Bench.X), 4);
    }

    private static void whatResetDoes() {
        Bench bench = new Bench().vector(1, 0xFFFC, 0xABCD).stateAt(1, 0x300, 0x81, 0x42, 0x24, 0x10, 0xEB);
        bench.vector(1, 0xFFFC, 0xABCD).flags(Bench.SET | Bench.FLAG_P).flags(Bench.FLAG_P);
        int[] before = {0x81, 0x42, 0x24, 0x10, 0xEB, 0x300, 0};
        int[] behind = {0x81, 0x42, 0x24, 0xFD, 0xEF, 0xABCD, 0};
        for (int k = 0; k < 7; k++) {
            CHECK.same("register before " + k, register(bench, k), before[k]);
        }
        bench.second(1);
        for (int k = 0; k < 7; k++) {
            CHECK.same("register behind " + k, register(bench, k), behind[k]);
        }
        CHECK.same("the stack stays", bench.cores.byteAt(1, 0x110), 0xEB);
    }

    private static void withoutAStepBetween() {
        Bench bench = counting().second(6).start(0, 0x200, SET_P + UNSET_P + "4C 0A 02");
        bench.cores.run(4, 0);
        CHECK.same("P is 0 again", bench.cores.port(0, 0), 0x40);
        bench.cores.run(1, 1);
        CHECK.same("RESET all the same", register(bench, Bench.X), 3);
        bench.cores.run(1, 1);
        CHECK.same("then its code", register(bench, Bench.X), 4);
    }

    private static void once() {
        Bench bench = heldCounting().flags(Bench.FLAG_P).second(9);
        CHECK.same("RESET, then eight steps", register(bench, Bench.X), 7);
        CHECK.same("steps", bench.cores.steps(1), 15);
    }

    private static void noChangeOfP() {
        Bench bench = counting().second(6).flags(Bench.FLAG_P).second(2);
        CHECK.same("0 where it is 0: no RESET", register(bench, Bench.X), 4);
        bench.flags(Bench.SET | Bench.FLAG_P).flags(Bench.SET | Bench.FLAG_P).flags(Bench.FLAG_P).second(3);
        CHECK.same("1 twice: RESET once", register(bench, Bench.X), 5);
        bench.flags(Bench.FLAG_P).second(2);
        CHECK.same("0 twice: no RESET more", register(bench, Bench.X), 6);
        bench.flags(Bench.SET).second(2);
        CHECK.same("bit 7 alone is not P", register(bench, Bench.X), 7);
    }

    private static void aSecondTime() {
        Bench bench = heldCounting().flags(Bench.FLAG_P).second(3);
        CHECK.same("RESET, INX, JMP", register(bench, Bench.X), 4);
        bench.flags(Bench.SET | Bench.FLAG_P).flags(Bench.FLAG_P).second(1);
        CHECK.same("RESET again", register(bench, Bench.X), 4);
        bench.flags(Bench.SET | Bench.FLAG_P).flags(Bench.FLAG_P).flags(Bench.SET | Bench.FLAG_P).flags(Bench.FLAG_P).second(2);
        CHECK.same("twice before a step: one RESET, then INX", register(bench, Bench.X), 5);
    }

    private static void otherFlags() {
        Bench bench = heldCounting().flags(0x1F).flags(Bench.SET | 0x1F).flags(0x1F).second(5);
        CHECK.same("P stays 1", bench.cores.port(1, 0), 0x60);
        CHECK.same("no steps", bench.cores.steps(1), 6);
        bench.flags(0x3F).second(2);
        CHECK.same("P became 0 with the others", register(bench, Bench.X), 4);
    }

    /** IRQ's line is on and I is 0, but RESET makes it 1 first. */
    private static void noBreak() {
        Bench bench = new Bench().vector(1, 0xFFFE, 0x480).vector(1, 0xFFFA, 0x4C0).start(1, 0x300, "58 EA EA EA").second(2);
        bench.flags(Bench.SET | Bench.FLAG_P | Bench.FLAG_I | Bench.FLAG_M);
        bench.firstWrites(Bench.portPlace(0, 1), 1).firstWrites(Bench.portPlace(0, 5), 1).second(4);
        CHECK.same("held", register(bench, Bench.PC), 0x302);
        bench.flags(Bench.FLAG_P).second(1);
        CHECK.same("RESET", register(bench, Bench.PC), 0x300);
        CHECK.same("nothing was put on the stack", register(bench, Bench.S), 0xFD);
        bench.second(1);
        CHECK.same("I is 1, so CLI", register(bench, Bench.PC), 0x301);
        bench.second(1);
        CHECK.same("IRQ now", register(bench, Bench.PC), 0x480);
    }

    private static void nmiAtThatReset() {
        Bench on = heldCounting().vector(1, 0xFFFA, 0x4C0).flags(Bench.SET | Bench.FLAG_M);
        on.firstWrites(Bench.portPlace(0, 5), 1).flags(Bench.FLAG_P).second(2);
        CHECK.same("on at RESET: none", register(on, Bench.PC), 0x301);
        Bench later = heldCounting().vector(1, 0xFFFA, 0x4C0).flags(Bench.SET | Bench.FLAG_M).flags(Bench.FLAG_P).second(1);
        later.firstWrites(Bench.portPlace(0, 5), 1).second(1);
        CHECK.same("on behind RESET: it breaks in", register(later, Bench.PC), 0x4C0);
        Bench due = heldCounting().vector(1, 0xFFFA, 0x4C0).flags(Bench.FLAG_P).flags(Bench.SET | Bench.FLAG_M);
        due.firstWrites(Bench.portPlace(0, 5), 1).second(2);
        CHECK.same("on while RESET is due: none", register(due, Bench.PC), 0x301);
    }

    private static void standsWhileHeld() {
        Bench bench = new Bench().put(1, 0x300, "E8 02").vector(1, 0xFFFC, 0x300).start(0, 0x200, SET_P + "02");
        CHECK.same("run ends when 0 stands", bench.cores.run(100, 2), 3);
        CHECK.same("1 counts as standing", register(bench, Bench.STANDS), 1);
        CHECK.same("run ends at once", bench.cores.run(100, 2), 0);
        CHECK.same("no steps", bench.cores.steps(1), 0);
    }

    private static void heldIsNotStanding() {
        Bench bench = heldCounting().start(0, 0x200, "02");
        CHECK.same("run goes on", bench.cores.run(50, 4), 50);
        CHECK.same("0 stands", bench.cores.register(0, Bench.STANDS), 1);
        CHECK.same("1 does not", register(bench, Bench.STANDS), 0);
        CHECK.same("though it does nothing", bench.cores.steps(1), 6);
    }

    private static Bench standsAndResetIsDue(String code) {
        Bench bench = new Bench().put(1, 0x300, code).vector(1, 0xFFFC, 0x300);
        return bench.flags(Bench.SET | Bench.FLAG_P).flags(Bench.FLAG_P).start(0, 0x200, "02").first(1);
    }

    private static void notStandingWhenDue() {
        Bench bench = standsAndResetIsDue("E8 02");
        CHECK.same("0 stands", bench.cores.register(0, Bench.STANDS), 1);
        CHECK.same("1 does not count as standing", register(bench, Bench.STANDS), 0);
        CHECK.same("run 0", bench.cores.run(0, 1), 0);
        CHECK.same("with ratio 0 it never ends by itself", bench.cores.run(30, 0), 30);
        CHECK.same("RESET, INX, stand", bench.cores.run(30, 1), 3);
        CHECK.same("X", register(bench, Bench.X), 1);
        CHECK.same("it stands", register(bench, Bench.STANDS), 1);
        CHECK.same("run ends at once", bench.cores.run(30, 1), 0);
        Bench quick = standsAndResetIsDue("E8 02");
        CHECK.same("all in one time with ratio 4", quick.cores.run(30, 4), 1);
        CHECK.same("X, ratio 4", register(quick, Bench.X), 1);
    }

    private static void standsBehindReset() {
        Bench bench = standsAndResetIsDue("02");
        CHECK.same("only RESET", bench.cores.run(1, 1), 1);
        CHECK.same("it is awake", register(bench, Bench.STANDS), 0);
        CHECK.same("one time more", bench.cores.run(30, 1), 1);
        CHECK.same("it stands", register(bench, Bench.STANDS), 1);
        CHECK.same("at its code", register(bench, Bench.PC), 0x300);
    }

    private static void callWhileHeld() {
        Bench bench = heldCounting().vector(1, 0xFFFC, 0x340).put(1, 0x340, "C8 C8 C8");
        bench.cores.reset(1);
        CHECK.same("RESET at once", register(bench, Bench.PC), 0x340);
        bench.second(3);
        CHECK.same("but no steps", bench.cores.steps(1), 6);
        CHECK.same("PC", register(bench, Bench.PC), 0x340);
    }

    private static void secondCannot() {
        Bench bench = new Bench().start(1, 0x300, "A9 A0 8D F8 FE E8 E8 E8").second(4);
        CHECK.same("P is 0", bench.cores.port(1, 0), 0x40);
        CHECK.same("X", register(bench, Bench.X), 2);
        CHECK.same("steps", bench.cores.steps(1), 4);
    }
}
