/**
 * 'An object is used for at most 512 calls after it has been made': the last of
 * them answers as the first ones do. ModelTest's runs have so many calls as well.
 */
final class LongUseTest {
    private static final int MOST_CALLS = 512;
    private static final int MOST_TIMES = 4000;
    private static final int MOST_RATIO = 4;
    private static final Check CHECK = new Check();

    public static void main(String[] args) {
        CHECK.test("512 calls, all that can be of the dearest kind", LongUseTest::dearestCalls);
        CHECK.test("the 512th call, of each kind", LongUseTest::lastCallOfEachKind);
        CHECK.end();
    }

    private static final int CALLS_TO_MAKE_IT = 6;

    /** Both machines change the bytes at their ports without end, so bytes come and go in every row. */
    private static TwinCores busyForEver() {
        TwinCores cores = new TwinCores();
        cores.load(0, 0x200, 0xEEE1FEEE, 0xE3FEEEE5, 0xFEEEE7FE, 0x4C000200, 0, 15);
        cores.load(0, 0xFFFC, 0x00020000, 0, 0, 0, 0, 2);
        cores.load(1, 0x300, 0xEEF9FEEE, 0xFBFEEEFD, 0xFEEEFFFE, 0x4C000300, 0, 15);
        cores.load(1, 0xFFFC, 0x00030000, 0, 0, 0, 0, 2);
        cores.reset(0);
        cores.reset(1);
        return cores;
    }

    private static void dearestCalls() {
        TwinCores cores = busyForEver();
        int runs = MOST_CALLS - CALLS_TO_MAKE_IT - 2;
        for (int i = 1; i <= runs; i++) {
            CHECK.same("run " + i, cores.run(MOST_TIMES, MOST_RATIO), MOST_TIMES);
        }
        CHECK.same("steps of 0", cores.steps(0), (long) MOST_TIMES * runs);
        CHECK.same("steps of 1", cores.steps(1), (long) MOST_TIMES * MOST_RATIO * runs);
    }

    private interface Asked {
        long of(TwinCores cores);
    }

    /** The object has answered 511 calls; machine 0 did one step, machine 1 two. */
    private static TwinCores afterAllButOne() {
        TwinCores cores = busyForEver();
        cores.run(1, 2);
        for (int i = CALLS_TO_MAKE_IT + 1; i < MOST_CALLS - 1; i++) {
            cores.byteAt(i % 2, i);
        }
        return cores;
    }

    private static void lastCall(String told, long due, Asked call) {
        CHECK.same(told, call.of(afterAllButOne()), due);
    }

    private static void lastCallOfEachKind() {
        lastCall("byteAt 0", 0xE1, cores -> cores.byteAt(0, 0x201));
        lastCall("byteAt 1", 0xF9, cores -> cores.byteAt(1, 0x301));
        lastCall("register 0", 0x203, cores -> cores.register(0, Bench.PC));
        lastCall("register 1", 0x306, cores -> cores.register(1, Bench.PC));
        lastCall("port 0", 0xC0, cores -> cores.port(0, 0));
        lastCall("port 1", 1, cores -> cores.port(1, 1));
        lastCall("waits 0", 1, cores -> cores.waits(0, 2));
        lastCall("waits 1", 0, cores -> cores.waits(1, 1));
        lastCall("steps 0", 1, cores -> cores.steps(0));
        lastCall("steps 1", 2, cores -> cores.steps(1));
        lastCall("run", 9, cores -> cores.run(9, 1));
        afterAllButOne().load(0, 0, 1, 2, 3, 4, 5, 20);
        afterAllButOne().reset(0);
        afterAllButOne().clear();
        TwinCores cores = afterAllButOne();
        CHECK.noIndex("a refused call", () -> cores.reset(2));
    }
}
