import java.util.List;

/** The edges of a new object, of clear, of reset and of what register tells. */
final class NewEdgeTest {
    private static final Check CHECK = new Check();

    public static void main(String[] args) {
        CHECK.test("All bytes 0", NewEdgeTest::everyByte);
        CHECK.test("registers and flags 0 (but bit 5 of P)", NewEdgeTest::everyRegister);
        CHECK.test("nothing waits", NewEdgeTest::nothingWaits);
        CHECK.test("both machines stand", NewEdgeTest::bothStand);
        CHECK.test("clear: all as at first, whatever was before", NewEdgeTest::clearedIsNew);
        CHECK.test("clear: what comes later is as of a new object", NewEdgeTest::clearedGoesOnAsNew);
        CHECK.test("clear: each row takes and gives bytes as at first", NewEdgeTest::clearedRows);
        CHECK.test("clear: twice", NewEdgeTest::clearedTwice);
        CHECK.test("bit 5 of P is always 1, bit 4 0", NewEdgeTest::bitsOfP);
        CHECK.test("RESET: S is $FD, I 1, PC the word at $FFFC", NewEdgeTest::resetSets);
        CHECK.test("RESET: other things stay", NewEdgeTest::resetLeaves);
        CHECK.test("RESET: other things stay, all that can be asked", NewEdgeTest::resetChangesNothingElse);
        CHECK.test("RESET twice is RESET once", NewEdgeTest::resetTwice);
        CHECK.test("reset: the other machine stays", NewEdgeTest::otherStays);
        CHECK.test("two objects are apart", NewEdgeTest::objectsAreApart);
        CHECK.end();
    }

    private static void everyByte() {
        long bytes = State.of(TwinCores::new).stream().filter(line -> line.startsWith("byteAt")).count();
        long zeros = State.of(TwinCores::new).stream()
                .filter(line -> line.startsWith("byteAt") && line.endsWith(" is 0")).count();
        CHECK.same("bytes asked", bytes, 8192);
        CHECK.same("bytes that are 0", zeros, 8192);
    }

    private static void everyRegister() {
        TwinCores cores = new TwinCores();
        int[] due = {0, 0, 0, 0, 0x20, 0, 1};
        for (int machine = 0; machine < 2; machine++) {
            for (int k = 0; k < 7; k++) {
                CHECK.same("register " + machine + " " + k, cores.register(machine, k), due[k]);
            }
            CHECK.same("flags seen by " + machine, cores.port(machine, 0), 0x40);
            CHECK.same("steps of " + machine, cores.steps(machine), 0);
        }
    }

    private static void nothingWaits() {
        TwinCores cores = new TwinCores();
        for (int machine = 0; machine < 2; machine++) {
            for (int port = 1; port <= 4; port++) {
                CHECK.same("waits " + machine + " " + port, cores.waits(machine, port), 0);
                CHECK.same("status " + machine + " " + port, cores.port(machine, 2 * port - 2), port == 1 ? 0x40 : 0x7F);
                CHECK.same("byte " + machine + " " + port, cores.port(machine, 2 * port - 1), 0);
            }
        }
    }

    private static void bothStand() {
        TwinCores cores = new TwinCores();
        cores.load(0, 0, 0xEAEAEAEA, 0, 0, 0, 0, 4);
        cores.load(1, 0, 0xEAEAEAEA, 0, 0, 0, 0, 4);
        CHECK.same("no time, whatever code is there", cores.run(4000, 4), 0);
        for (int machine = 0; machine < 2; machine++) {
            CHECK.same("stands", cores.register(machine, Bench.STANDS), 1);
            CHECK.same("PC", cores.register(machine, Bench.PC), 0);
        }
    }

    private static TwinCores cleared(State.Past past) {
        TwinCores cores = past.made();
        cores.clear();
        return cores;
    }

    private static void clearedIsNew() {
        for (State.Past past : Pasts.ALL) {
            CHECK.sameState("cleared", () -> cleared(past), TwinCores::new);
        }
    }

    /**
     * What does not show at once: the row's bytes, the latest ones, a RESET that is
     * due, NMI's line before, and port 3's length.
     */
    private static void clearedGoesOnAsNew() {
        for (State.Past past : Pasts.ALL) {
            CHECK.sameState("cleared", () -> worked(cleared(past)), () -> worked(new TwinCores()));
        }
        CHECK.sameState("NMI's line on at the last step", () -> worked(cleared(NewEdgeTest::nmiOn)), () -> worked(new TwinCores()));
    }

    private static TwinCores nmiOn() {
        TwinCores cores = Pasts.busy();
        cores.run(1, 1);
        return cores;
    }

    /** Machine 0 sends two bytes at port 3 and reads all of its ports; both count; M becomes 1 with a byte there. */
    private static TwinCores worked(TwinCores cores) {
        cores.load(0, 0x200, 0xA2318EE5, 0xFEE88EE5, 0xFEADE1FE, 0xACE5FEA9, 0x888DE0FE, 20);
        cores.load(0, 0x214, 0xE84C1402, 0, 0, 0, 0, 4);
        cores.load(1, 0x300, 0xC84C0003, 0, 0, 0, 0, 4);
        cores.load(1, 0x400, 0xADFDFEAE, 0xFDFE4800, 0, 0, 0, 7);
        for (int machine = 0; machine < 2; machine++) {
            cores.load(machine, 0xFFFA, 0x00040002 + machine, 0x00050000, 0, 0, 0, 6);
        }
        cores.reset(0);
        cores.run(3, 1);
        cores.reset(1);
        cores.run(30, 1);
        return cores;
    }

    /** The second byte has no room in any row, for V is 0, but in the long one. */
    private static void clearedRows() {
        Bench bench = new Bench();
        for (int round = 0; round < 3; round++) {
            for (int from = 0; from < 2; from++) {
                for (int k = 1; k < 8; k += 2) {
                    bench.writes(from, Bench.portPlace(from, k), 0x30 + k).writes(from, Bench.portPlace(from, k), 0x40 + k);
                    CHECK.same("waits", bench.cores.waits(1 - from, k / 2 + 1), from == 1 && k == 1 ? 2 : 1);
                    CHECK.same("read", bench.reads(1 - from, Bench.portPlace(1 - from, k)), 0x30 + k);
                }
            }
            bench.cores.clear();
        }
    }

    private static void clearedTwice() {
        CHECK.sameState("cleared twice", () -> {
            TwinCores cores = cleared(Pasts::busy);
            cores.clear();
            return cores;
        }, TwinCores::new);
    }

    /** Whatever comes into P by PLP or RTI. */
    private static void bitsOfP() {
        for (int p = 0; p < 256; p++) {
            Bench bench = new Bench().put(0, 0x300, "EA").stateAt(0, 0x300, 0, 0, 0, 0xF0, p);
            int due = p & 0xCF | 0x20;
            CHECK.same("PLP of " + p, bench.cores.register(0, Bench.P), due);
            bench.put(0, 0x300, "40").put(0, 0x1F1, String.format("%02X 50 06", p)).first(1);
            CHECK.same("RTI of " + p, bench.cores.register(0, Bench.P), due);
            bench.put(0, 0x650, "08").first(1);
            CHECK.same("PHP's byte has both bits", bench.cores.byteAt(0, 0x1F3), p | 0x30);
            CHECK.same("P stays", bench.cores.register(0, Bench.P), due);
        }
    }

    private static void resetSets() {
        int[] words = {0x0000, 0x00FF, 0xFF00, 0xFFFF, 0x1234};
        for (int word : words) {
            for (int machine = 0; machine < 2; machine++) {
                Bench bench = new Bench().stateAt(machine, 0x300, 1, 2, 3, 0x55, 0x20).vector(machine, 0xFFFC, word);
                bench.cores.reset(machine);
                CHECK.same("PC", bench.cores.register(machine, Bench.PC), word);
                CHECK.same("S", bench.cores.register(machine, Bench.S), 0xFD);
                CHECK.same("P", bench.cores.register(machine, Bench.P), 0x24);
                CHECK.same("stands", bench.cores.register(machine, Bench.STANDS), 0);
            }
        }
    }

    private static void resetLeaves() {
        for (int machine = 0; machine < 2; machine++) {
            Bench bench = new Bench().stateAt(machine, 0x300, 0x81, 0x42, 0x24, 0x55, 0xEB);
            long steps = bench.cores.steps(machine);
            bench.cores.reset(machine);
            int[] due = {0x81, 0x42, 0x24, 0xFD, 0xEF};
            for (int k = 0; k < due.length; k++) {
                CHECK.same("register " + k, bench.cores.register(machine, k), due[k]);
            }
            CHECK.same("steps", bench.cores.steps(machine), steps);
            CHECK.same("the stack", bench.cores.byteAt(machine, 0x155), 0xEB);
        }
    }

    private static void resetChangesNothingElse() {
        for (State.Past past : Pasts.ALL) {
            for (int machine = 0; machine < 2; machine++) {
                int number = machine;
                List<String> before = State.of(past);
                List<String> behind = State.of(() -> reset(past.made(), number));
                before.removeIf(line -> isSetByReset(line, number));
                behind.removeIf(line -> isSetByReset(line, number));
                CHECK.holds("as before but for S, P, PC and whether it stands", behind.equals(before));
            }
        }
    }

    private static boolean isSetByReset(String line, int machine) {
        return line.matches("register " + machine + " [3456] is .*");
    }

    private static void resetTwice() {
        for (State.Past past : Pasts.ALL) {
            for (int machine = 0; machine < 2; machine++) {
                int number = machine;
                CHECK.sameState("machine " + machine, () -> reset(reset(past.made(), number), number),
                        () -> reset(past.made(), number));
            }
        }
    }

    private static TwinCores reset(TwinCores cores, int machine) {
        cores.reset(machine);
        return cores;
    }

    private static void otherStays() {
        for (int machine = 0; machine < 2; machine++) {
            Bench bench = new Bench().stateAt(machine, 0x300, 0x81, 0x42, 0x24, 0x55, 0xEB);
            bench.vector(1 - machine, 0xFFFC, 0x1234).cores.reset(1 - machine);
            int[] due = {0x81, 0x42, 0x24, 0x55, 0xEB, 0x300, 0};
            for (int k = 0; k < 7; k++) {
                CHECK.same("register " + machine + " " + k, bench.cores.register(machine, k), due[k]);
            }
        }
    }

    private static void objectsAreApart() {
        TwinCores quiet = new TwinCores();
        TwinCores busy = Pasts.busy();
        CHECK.same("nothing waits in the other", quiet.waits(0, 1), 0);
        CHECK.same("no flags in the other", quiet.port(0, 0), 0x40);
        CHECK.same("no bytes in the other", quiet.byteAt(0, 0x200), 0);
        quiet.clear();
        CHECK.same("clear of one leaves the other", busy.waits(0, 1), 24);
    }
}
