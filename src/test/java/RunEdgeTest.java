/** The edges of run and steps: no time, the last time, and the time before which both stand. */
final class RunEdgeTest {
    private static final Check CHECK = new Check();

    public static void main(String[] args) {
        CHECK.test("At most n times: each n near the end", RunEdgeTest::eachCount);
        CHECK.test("n 0: nothing comes of it", RunEdgeTest::noTime);
        CHECK.test("ratio 0: no step of machine 1", RunEdgeTest::noRatio);
        CHECK.test("ratio 1 to 4: as many of machine 1", RunEdgeTest::eachRatio);
        CHECK.test("n 4000 with ratio 4", RunEdgeTest::mostOfAll);
        CHECK.test("a step of machine 0, then those of machine 1", RunEdgeTest::order);
        CHECK.test("it ends before a time when both stand: at first", RunEdgeTest::bothStandAtFirst);
        CHECK.test("it ends before a time when both stand: machine 0 is the last", RunEdgeTest::firstIsLast);
        CHECK.test("it ends before a time when both stand: machine 1 is the last", RunEdgeTest::secondIsLast);
        CHECK.test("it ends before a time when both stand: both in one time", RunEdgeTest::inOneTime);
        CHECK.test("one of them stands: it does not end", RunEdgeTest::oneStands);
        CHECK.test("a machine that stands does no step, the other goes on", RunEdgeTest::standingDoesNoStep);
        CHECK.test("a call of reset wakes one, and run goes on", RunEdgeTest::wokenUp);
        CHECK.test("All others: the machine STANDS (PC at it)", RunEdgeTest::eachCodeToStandAt);
        CHECK.test("runs in parts are as one run", RunEdgeTest::inParts);
        CHECK.end();
    }

    private static Bench counting() {
        return new Bench().start(0, 0x200, "E8 4C 00 02").start(1, 0x300, "E8 4C 00 03");
    }

    private static Bench standing(String first, String second) {
        return new Bench().start(0, 0x200, first).start(1, 0x300, second);
    }

    private static void steps(String what, Bench bench, long first, long second) {
        CHECK.same(what + ": steps of 0", bench.cores.steps(0), first);
        CHECK.same(what + ": steps of 1", bench.cores.steps(1), second);
    }

    /** Both stand behind their third step. */
    private static void eachCount() {
        for (int n = 0; n <= 6; n++) {
            Bench bench = standing("EA EA 02", "EA EA 02");
            int due = Math.min(n, 3);
            CHECK.same("run " + n, bench.cores.run(n, 1), due);
            steps("run " + n, bench, due, due);
            CHECK.same("0 stands", bench.cores.register(0, Bench.STANDS), n >= 3 ? 1 : 0);
            CHECK.same("1 stands", bench.cores.register(1, Bench.STANDS), n >= 3 ? 1 : 0);
            CHECK.same("the rest", bench.cores.run(4000, 1), 3 - due);
        }
    }

    private static void noTime() {
        for (State.Past past : Pasts.ALL) {
            for (int ratio = 0; ratio <= 4; ratio++) {
                CHECK.same("run 0 " + ratio, past.made().run(0, ratio), 0);
            }
            CHECK.sameState("behind run 0", () -> ranNoTime(past.made()), past);
        }
    }

    private static TwinCores ranNoTime(TwinCores cores) {
        cores.run(0, 0);
        cores.run(0, 4);
        return cores;
    }

    private static void noRatio() {
        Bench bench = counting();
        CHECK.same("times", bench.cores.run(11, 0), 11);
        steps("ratio 0", bench, 11, 0);
        CHECK.same("PC of 1", bench.cores.register(1, Bench.PC), 0x300);
    }

    private static void eachRatio() {
        for (int ratio = 1; ratio <= 4; ratio++) {
            Bench bench = counting();
            CHECK.same("times", bench.cores.run(1, ratio), 1);
            steps("one time", bench, 1, ratio);
            CHECK.same("nine more", bench.cores.run(9, ratio), 9);
            steps("ten times", bench, 10, 10 * ratio);
            CHECK.same("X of 0", bench.cores.register(0, Bench.X), 5);
            CHECK.same("X of 1", bench.cores.register(1, Bench.X), 5 * ratio);
        }
    }

    private static void mostOfAll() {
        Bench bench = counting();
        for (int i = 1; i <= 3; i++) {
            CHECK.same("times", bench.cores.run(4000, 4), 4000);
            steps("call " + i, bench, 4000 * i, 16000 * i);
        }
    }

    /** Machine 1 sees in each of its steps of a time what machine 0 wrote in it. */
    private static void order() {
        Bench bench = standing("A2 11 8E E1 FE E8 4C 02 02", "EA AD F9 FE AE F9 FE 4C 04 03");
        bench.cores.run(2, 1);
        CHECK.same("written and read in one time", bench.cores.register(1, Bench.A), 0x11);
        CHECK.same("none waits", bench.cores.waits(1, 1), 0);
        Bench back = standing("EA AD E1 FE AE E1 FE", "A9 22 8D F9 FE 4C 02 03");
        back.cores.run(2, 1);
        CHECK.same("0 was before it", back.cores.register(0, Bench.A), 0);
        CHECK.same("it waits", back.cores.waits(0, 1), 1);
        back.cores.run(1, 1);
        CHECK.same("0 reads it the next time", back.cores.register(0, Bench.X), 0x22);
    }

    private static void bothStandAtFirst() {
        Bench bench = new Bench();
        for (int ratio = 0; ratio <= 4; ratio++) {
            CHECK.same("run 1 " + ratio, bench.cores.run(1, ratio), 0);
            CHECK.same("run 4000 " + ratio, bench.cores.run(4000, ratio), 0);
        }
        steps("nothing", bench, 0, 0);
    }

    private static void firstIsLast() {
        Bench bench = standing("EA EA EA EA 02", "02");
        CHECK.same("times", bench.cores.run(100, 4), 5);
        steps("behind it", bench, 5, 1);
        CHECK.same("again", bench.cores.run(100, 4), 0);
    }

    private static void secondIsLast() {
        int[] dueTimes = {0, 9, 5, 3, 3};
        for (int ratio = 1; ratio <= 4; ratio++) {
            Bench bench = standing("02", "EA EA EA EA EA EA EA EA 02");
            CHECK.same("times with ratio " + ratio, bench.cores.run(100, ratio), dueTimes[ratio]);
            steps("ratio " + ratio, bench, 1, 9);
        }
    }

    private static void inOneTime() {
        Bench bench = standing("EA 02", "EA EA EA EA EA 02");
        CHECK.same("times", bench.cores.run(100, 3), 2);
        steps("behind it", bench, 2, 6);
    }

    private static void oneStands() {
        Bench first = standing("02", "4C 00 03");
        CHECK.same("0 stands", first.cores.run(40, 1), 40);
        CHECK.same("0 stands, ratio 0", first.cores.run(40, 0), 40);
        Bench second = standing("4C 00 02", "02");
        CHECK.same("1 stands", second.cores.run(40, 2), 40);
        CHECK.same("1 stands, ratio 0", second.cores.run(40, 0), 40);
        Bench never = new Bench().start(0, 0x200, "4C 00 02");
        CHECK.same("1 was never RESET", never.cores.run(40, 2), 40);
    }

    private static void standingDoesNoStep() {
        Bench bench = standing("EA 02", "E8 4C 00 03");
        bench.cores.run(30, 2);
        steps("0 stands", bench, 2, 60);
        CHECK.same("PC of 0", bench.cores.register(0, Bench.PC), 0x201);
        Bench other = standing("E8 4C 00 02", "EA 02");
        other.cores.run(30, 2);
        steps("1 stands", other, 30, 2);
        CHECK.same("PC of 1", other.cores.register(1, Bench.PC), 0x301);
    }

    private static void wokenUp() {
        Bench bench = standing("EA 02", "02");
        CHECK.same("times", bench.cores.run(30, 1), 2);
        bench.cores.reset(1);
        CHECK.same("1 comes to stand again", bench.cores.run(30, 1), 1);
        bench.cores.reset(0);
        CHECK.same("0 comes to stand again", bench.cores.run(30, 1), 2);
        steps("all in all", bench, 4, 2);
    }

    private static void eachCodeToStandAt() {
        int stood = 0;
        for (int code = 0; code < 256; code++) {
            if (Model.CODES.containsKey(code)) {
                continue;
            }
            stood++;
            for (int machine = 0; machine < 2; machine++) {
                Bench bench = new Bench().put(machine, 0x300, String.format("%02X EA EA", code));
                bench.stateAt(machine, 0x300, 0x81, 0x42, 0x24, 0xC0, 0x6B).go(machine, 3);
                int[] due = {0x81, 0x42, 0x24, 0xC0, 0x6B, 0x300, 1};
                for (int k = 0; k < 7; k++) {
                    CHECK.same("code " + code + ", register " + k, bench.cores.register(machine, k), due[k]);
                }
            }
        }
        CHECK.same("codes", stood, 105);
    }

    private static void inParts() {
        for (State.Past past : Pasts.ALL) {
            CHECK.sameState("in parts", () -> ranInParts(past.made()), () -> ranAtOnce(past.made()));
        }
    }

    private static TwinCores ranAtOnce(TwinCores cores) {
        cores.run(60, 3);
        return cores;
    }

    private static TwinCores ranInParts(TwinCores cores) {
        cores.run(1, 3);
        cores.run(0, 3);
        cores.run(58, 3);
        cores.run(1, 3);
        return cores;
    }
}
