/** Promise 1, a new object, and promise 10, clear: all as at first. */
final class NewAndClearTest {
    private static final Check CHECK = new Check();

    public static void main(String[] args) {
        asAtFirst("new", new TwinCores());
        asAtFirst("cleared at once", cleared(new Bench()));
        asAtFirst("cleared when busy", cleared(busy()));
        bytesAreGone();
        aDueResetIsGone();
        latestBytesAreGone();
        worksAfterClear();
        CHECK.end();
    }

    private static TwinCores cleared(Bench bench) {
        bench.cores.clear();
        return bench.cores;
    }

    private static void asAtFirst(String what, TwinCores cores) {
        for (int machine = 0; machine < 2; machine++) {
            int[] registers = {0, 0, 0, 0, 0x20, 0, 1};
            for (int k = 0; k < 7; k++) {
                CHECK.same(what + ": register " + machine + " " + k, cores.register(machine, k), registers[k]);
            }
            int[] ports = {0x40, 0, 0x7F, 0, 0x7F, 0, 0x7F, 0};
            for (int k = 0; k < 8; k++) {
                CHECK.same(what + ": port " + machine + " " + k, cores.port(machine, k), ports[k]);
            }
            for (int port = 1; port < 5; port++) {
                CHECK.same(what + ": waits " + machine + " " + port, cores.waits(machine, port), 0);
            }
            CHECK.same(what + ": steps " + machine, cores.steps(machine), 0);
            for (int place = 0; place < 4096; place += 37) {
                CHECK.same(what + ": byteAt " + machine + " " + place, cores.byteAt(machine, place), 0);
            }
        }
        CHECK.same(what + ": run", cores.run(5, 4), 0);
        CHECK.same(what + ": steps after run", cores.steps(0) + cores.steps(1), 0);
    }

    /** Both machines run, all flags but P are set, bytes wait in every row. */
    private static Bench busy() {
        Bench bench = new Bench();
        bench.firstWrites(0xFEE0, 0x9F);
        for (int port = 1; port < 5; port++) {
            bench.firstWrites(0xFEDF + 2 * port, 0x50 + port);
            bench.secondWrites(0xFEF7 + 2 * port, 0x60 + port);
        }
        bench.start(1, 0x300, "A9 FF A2 FE A0 FD 38 F8 78 B8 4C 0A 03").second(20);
        CHECK.same("busy: waits 0 4", bench.cores.waits(0, 4), 1);
        CHECK.same("busy: waits 1 4", bench.cores.waits(1, 4), 1);
        return bench;
    }

    private static void bytesAreGone() {
        Bench bench = new Bench();
        for (int place = 0; place < 4096; place += 20) {
            bench.cores.load(1, place, -1, -1, -1, -1, -1, 20);
        }
        bench.cores.clear();
        for (int place = 0; place < 4096; place += 17) {
            CHECK.same("cleared byte " + place, bench.cores.byteAt(1, place), 0);
        }
    }

    private static void aDueResetIsGone() {
        Bench bench = new Bench();
        bench.firstWrites(0xFEE0, 0xA0);
        bench.cores.clear();
        bench.vector(1, 0xFFFC, 0x300).start(0, 0x200, "EA EA EA").first(3);
        CHECK.same("no RESET is due", bench.cores.register(1, Bench.STANDS), 1);
        bench.cores.run(1, 4);
        CHECK.same("none comes", bench.cores.register(1, Bench.PC), 0);
        CHECK.same("nor a step", bench.cores.steps(1), 0);
    }

    private static void latestBytesAreGone() {
        Bench bench = new Bench();
        bench.firstWrites(0xFEE1, 0x77);
        CHECK.same("machine 1 reads", bench.secondReads(0xFEF9), 0x77);
        CHECK.same("the latest stays", bench.cores.port(1, 1), 0x77);
        bench.cores.clear();
        CHECK.same("the latest is gone", bench.cores.port(1, 1), 0);
    }

    private static void worksAfterClear() {
        Bench bench = busy();
        bench.cores.clear();
        bench.firstWrites(0xFEE5, 0x11).firstWrites(0xFEE5, 0x22);
        CHECK.same("V is 0 after clear, so port 3 has one", bench.cores.waits(1, 3), 1);
        CHECK.same("and it is the first", bench.cores.port(1, 5), 0x11);
        CHECK.same("steps count from 0", bench.cores.steps(0), 4);
    }
}
