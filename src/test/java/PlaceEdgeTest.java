/**
 * The edges of 'MEMORY' and of load and byteAt: bytes that are there sixteen
 * times, the ports' first and last places, and the places that go round.
 */
final class PlaceEdgeTest {
    private static final Check CHECK = new Check();

    public static void main(String[] args) {
        CHECK.test("its lowest 12 bits tell the byte: asked", PlaceEdgeTest::askedSixteenTimes);
        CHECK.test("its lowest 12 bits tell the byte: written", PlaceEdgeTest::writtenSixteenTimes);
        CHECK.test("its lowest 12 bits tell the byte: read", PlaceEdgeTest::readSixteenTimes);
        CHECK.test("its lowest 12 bits tell the byte: code", PlaceEdgeTest::codeSixteenTimes);
        CHECK.test("but for the ports: each place of them is no memory", PlaceEdgeTest::eachPortPlace);
        CHECK.test("the ports: the places before and behind them are memory", PlaceEdgeTest::besideThePorts);
        CHECK.test("the ports: they are there once", PlaceEdgeTest::portsAreThereOnce);
        CHECK.test("the ports: those of the other machine are memory", PlaceEdgeTest::portsOfTheOther);
        CHECK.test("load: the first n of 20 bytes", PlaceEdgeTest::eachCount);
        CHECK.test("load: its lowest 12 bits count", PlaceEdgeTest::loadedSixteenTimes);
        CHECK.test("load: places go round", PlaceEdgeTest::loadGoesRound);
        CHECK.test("load: into memory, also below the ports", PlaceEdgeTest::loadBelowPorts);
        CHECK.test("load: the highest of each number first, with a sign or not", PlaceEdgeTest::highestFirst);
        CHECK.test("byteAt: not of the ports", PlaceEdgeTest::byteAtBelowPorts);
        CHECK.test("load and byteAt: nothing but bytes changes", PlaceEdgeTest::nothingElseChanges);
        CHECK.end();
    }

    private static int[] edgesOf(int block) {
        return new int[] {block * 4096, block * 4096 + 0x456, block * 4096 + 0xFFF};
    }

    private static void askedSixteenTimes() {
        for (int machine = 0; machine < 2; machine++) {
            Bench bench = new Bench().put(machine, 0x000, "11").put(machine, 0x456, "22").put(machine, 0xFFF, "33");
            for (int block = 0; block < 16; block++) {
                int[] places = edgesOf(block);
                CHECK.same("first of " + block, bench.cores.byteAt(machine, places[0]), 0x11);
                CHECK.same("within " + block, bench.cores.byteAt(machine, places[1]), 0x22);
                CHECK.same("last of " + block, bench.cores.byteAt(machine, places[2]), 0x33);
                CHECK.same("other machine", bench.cores.byteAt(1 - machine, places[0]), 0);
            }
        }
    }

    private static void writtenSixteenTimes() {
        for (int machine = 0; machine < 2; machine++) {
            Bench bench = new Bench();
            for (int block = 0; block < 16; block++) {
                for (int place : edgesOf(block)) {
                    bench.writes(machine, place, 0x80 + block);
                    CHECK.same("written at " + place, bench.cores.byteAt(machine, place & 0xFFF), 0x80 + block);
                }
            }
        }
    }

    private static void readSixteenTimes() {
        for (int machine = 0; machine < 2; machine++) {
            Bench bench = new Bench().put(machine, 0x000, "11").put(machine, 0x456, "22").put(machine, 0xFFF, "33");
            for (int block = 0; block < 16; block++) {
                int[] places = edgesOf(block);
                CHECK.same("first of " + block, bench.reads(machine, places[0]), 0x11);
                CHECK.same("within " + block, bench.reads(machine, places[1]), 0x22);
                CHECK.same("last of " + block, bench.reads(machine, places[2]), 0x33);
            }
        }
    }

    /** PC keeps its 16 bits. */
    private static void codeSixteenTimes() {
        for (int machine = 0; machine < 2; machine++) {
            Bench bench = new Bench();
            for (int block = 0; block < 16; block++) {
                bench.start(machine, block * 4096 + 0x321, "E8 C8 EA").go(machine, 2);
                CHECK.same("PC in " + block, bench.cores.register(machine, Bench.PC), block * 4096 + 0x323);
                CHECK.same("X in " + block, bench.cores.register(machine, Bench.X), block + 1);
            }
        }
    }

    private static void eachPortPlace() {
        for (int machine = 0; machine < 2; machine++) {
            Bench bench = new Bench().put(machine, Bench.portPlace(machine, 0), "51 52 53 54 55 56 57 58");
            for (int k = 0; k < 8; k++) {
                int place = Bench.portPlace(machine, k);
                int due = k == 0 ? 0x40 : k % 2 == 0 ? 0x7F : 0;
                CHECK.same("read at " + k, bench.reads(machine, place), due);
                bench.writes(machine, place, 0);
                CHECK.same("byte below, though written at " + k, bench.cores.byteAt(machine, place), 0x51 + k);
                CHECK.same("waits", bench.cores.waits(1 - machine, k / 2 + 1), k % 2);
            }
        }
    }

    private static void besideThePorts() {
        for (int machine = 0; machine < 2; machine++) {
            Bench bench = new Bench();
            int[] beside = {Bench.portPlace(machine, -1), Bench.portPlace(machine, 8)};
            for (int place : beside) {
                bench.put(machine, place, "5B");
                CHECK.same("read at " + place, bench.reads(machine, place), 0x5B);
                bench.writes(machine, place, 0xA6);
                CHECK.same("written at " + place, bench.cores.byteAt(machine, place & 0xFFF), 0xA6);
            }
            nothingWaits(bench);
        }
    }

    private static void nothingWaits(Bench bench) {
        for (int port = 1; port <= 4; port++) {
            CHECK.same("for 0 at port " + port, bench.cores.waits(0, port), 0);
            CHECK.same("for 1 at port " + port, bench.cores.waits(1, port), 0);
        }
        CHECK.same("flags", bench.cores.port(0, 0), 0x40);
    }

    private static void portsAreThereOnce() {
        for (int machine = 0; machine < 2; machine++) {
            for (int block = 0; block < 15; block++) {
                Bench bench = new Bench();
                for (int k = 0; k < 8; k++) {
                    int place = block * 4096 + (Bench.portPlace(machine, k) & 0xFFF);
                    bench.writes(machine, place, 0x90 + k);
                    CHECK.same("written at " + place, bench.cores.byteAt(machine, place), 0x90 + k);
                    CHECK.same("read at " + place, bench.reads(machine, place), 0x90 + k);
                }
                nothingWaits(bench);
            }
        }
    }

    private static void portsOfTheOther() {
        for (int machine = 0; machine < 2; machine++) {
            Bench bench = new Bench();
            for (int k = 0; k < 8; k++) {
                int place = Bench.portPlace(1 - machine, k);
                bench.writes(machine, place, 0xA0 + k);
                CHECK.same("written at " + place, bench.cores.byteAt(machine, place), 0xA0 + k);
                CHECK.same("read at " + place, bench.reads(machine, place), 0xA0 + k);
            }
            nothingWaits(bench);
        }
    }

    private static void eachCount() {
        for (int machine = 0; machine < 2; machine++) {
            for (int n = 1; n <= 20; n++) {
                TwinCores cores = new TwinCores();
                cores.load(machine, 0x400, 0x01020304, 0x05060708, 0x090A0B0C, 0x0D0E0F10, 0x11121314, n);
                CHECK.same("before the first, n " + n, cores.byteAt(machine, 0x3FF), 0);
                for (int i = 0; i < 22; i++) {
                    CHECK.same("byte " + i + ", n " + n, cores.byteAt(machine, 0x400 + i), i < n ? i + 1 : 0);
                }
            }
        }
    }

    private static void loadedSixteenTimes() {
        for (int machine = 0; machine < 2; machine++) {
            TwinCores cores = new TwinCores();
            for (int block = 0; block < 16; block++) {
                for (int place : edgesOf(block)) {
                    cores.load(machine, place, 0xC0 + block << 24, 0, 0, 0, 0, 1);
                    CHECK.same("loaded at " + place, cores.byteAt(machine, place & 0xFFF), 0xC0 + block);
                }
            }
        }
    }

    /** The place behind $FFF is $000, wherever among the twenty bytes the end comes. */
    private static void loadGoesRound() {
        for (int block = 0; block < 16; block++) {
            for (int before = 1; before <= 20; before++) {
                TwinCores cores = new TwinCores();
                int place = block * 4096 + 4096 - before;
                cores.load(block % 2, place, 0x01020304, 0x05060708, 0x090A0B0C, 0x0D0E0F10, 0x11121314, 20);
                for (int i = 0; i < 20; i++) {
                    CHECK.same("byte " + i + " from " + place, cores.byteAt(block % 2, place + i & 0xFFF), i + 1);
                }
                CHECK.same("behind the last", cores.byteAt(block % 2, place + 20 & 0xFFF), 0);
            }
        }
    }

    private static void loadBelowPorts() {
        for (int machine = 0; machine < 2; machine++) {
            Bench bench = new Bench();
            int first = Bench.portPlace(machine, 0);
            bench.cores.load(machine, first, -1, -1, 0, 0, 0, 8);
            for (int k = 0; k < 8; k++) {
                CHECK.same("the byte below place " + k, bench.cores.byteAt(machine, first + k & 0xFFF), 0xFF);
            }
            nothingWaits(bench);
        }
    }

    private static void highestFirst() {
        TwinCores cores = new TwinCores();
        cores.load(0, 0x10, 0x80000000, 0x7FFFFFFF, 0xFF000001, 0x00FF8000, -2, 20);
        int[] due = {0x80, 0, 0, 0, 0x7F, 0xFF, 0xFF, 0xFF, 0xFF, 0, 0, 1, 0, 0xFF, 0x80, 0, 0xFF, 0xFF, 0xFF, 0xFE};
        for (int i = 0; i < 20; i++) {
            CHECK.same("byte " + i, cores.byteAt(0, 0x10 + i), due[i]);
        }
    }

    private static void byteAtBelowPorts() {
        for (int machine = 0; machine < 2; machine++) {
            Bench bench = new Bench().flags(Bench.SET | Bench.FLAG_Q);
            for (int port = 1; port <= 4; port++) {
                bench.writes(1 - machine, Bench.portPlace(1 - machine, 2 * port - 1), 0x5A);
            }
            for (int k = 0; k < 8; k++) {
                CHECK.same("place " + k, bench.cores.byteAt(machine, Bench.portPlace(machine, k)), 0);
                CHECK.same("still waits", bench.cores.waits(machine, k / 2 + 1), 1);
            }
        }
    }

    private static void nothingElseChanges() {
        for (State.Past past : Pasts.ALL) {
            CHECK.sameState("load of the bytes that are there", () -> loadedAsItWas(past), past);
        }
    }

    private static TwinCores loadedAsItWas(State.Past past) {
        TwinCores cores = past.made();
        for (int machine = 0; machine < 2; machine++) {
            for (int place = 0x1F8; place < 0x204; place++) {
                cores.load(machine, place, cores.byteAt(machine, place) << 24, -1, -1, -1, -1, 1);
            }
        }
        return cores;
    }
}
