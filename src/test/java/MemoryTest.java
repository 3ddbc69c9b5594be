/** Promise 2, load, and promise 3, byteAt. */
final class MemoryTest {
    private static final Check CHECK = new Check();

    public static void main(String[] args) {
        bytesComeHighestFirst();
        onlyTheFirstComeIn();
        placesGoRound();
        portsAreNotMeant();
        machinesAreApart();
        eachByteIsApart();
        wrongInputs();
        CHECK.end();
    }

    private static void bytesComeHighestFirst() {
        TwinCores cores = new TwinCores();
        cores.load(0, 0x123, 0x80FF7F01, 0x02030405, 0xFEDCBA98, 0x76543210, 0xA0B0C0D0, 20);
        int[] due = {0x80, 0xFF, 0x7F, 1, 2, 3, 4, 5, 0xFE, 0xDC, 0xBA, 0x98, 0x76, 0x54, 0x32, 0x10, 0xA0, 0xB0, 0xC0, 0xD0};
        for (int i = 0; i < 20; i++) {
            CHECK.same("byte " + i, cores.byteAt(0, 0x123 + i), due[i]);
        }
        CHECK.same("behind", cores.byteAt(0, 0x123 + 20), 0);
        CHECK.same("before", cores.byteAt(0, 0x122), 0);
    }

    private static void onlyTheFirstComeIn() {
        for (int n = 1; n <= 20; n++) {
            TwinCores cores = new TwinCores();
            cores.load(1, 0x200, -1, -1, -1, -1, -1, n);
            for (int i = 0; i < 21; i++) {
                CHECK.same("n " + n + " byte " + i, cores.byteAt(1, 0x200 + i), i < n ? 255 : 0);
            }
        }
    }

    private static void placesGoRound() {
        TwinCores cores = new TwinCores();
        cores.load(0, 0xFFFE, 0x01020304, 0, 0, 0, 0, 4);
        CHECK.same("$FFE", cores.byteAt(0, 0xFFE), 1);
        CHECK.same("$FFF", cores.byteAt(0, 0xFFF), 2);
        CHECK.same("$000", cores.byteAt(0, 0), 3);
        CHECK.same("$001", cores.byteAt(0, 1), 4);
        for (int page = 0; page < 16; page++) {
            CHECK.same("sixteen times", cores.byteAt(0, page * 4096 + 0xFFE), 1);
        }
        cores.load(0, 0x3FF5, 0x11111111, 0x11111111, 0x11111122, 0x33333333, 0x33333344, 20);
        CHECK.same("$FFF, put at $3FF5", cores.byteAt(0, 0xFFFF), 0x11);
        CHECK.same("$000, put at $3FF5", cores.byteAt(0, 0x5000), 0x22);
        CHECK.same("$008, put at $3FF5", cores.byteAt(0, 8), 0x44);
    }

    private static void portsAreNotMeant() {
        TwinCores cores = new TwinCores();
        for (int machine = 0; machine < 2; machine++) {
            cores.load(machine, 0xFEE0, -1, -1, 0, 0, 0, 8);
            cores.load(machine, 0xFEF8, -1, -1, 0, 0, 0, 8);
            for (int k = 0; k < 8; k++) {
                CHECK.same("byte under a port of 0", cores.byteAt(machine, 0xFEE0 + k), 255);
                CHECK.same("byte under a port of 1", cores.byteAt(machine, 0xFEF8 + k), 255);
                CHECK.same("nothing waits", cores.waits(machine, k / 2 + 1), 0);
            }
            CHECK.same("no flag is set", cores.port(machine, 0), 0x40);
        }
    }

    private static void machinesAreApart() {
        TwinCores cores = new TwinCores();
        cores.load(0, 0x10, 0x55000000, 0, 0, 0, 0, 1);
        cores.load(1, 0x10, 0x66000000, 0, 0, 0, 0, 1);
        CHECK.same("of 0", cores.byteAt(0, 0x10), 0x55);
        CHECK.same("of 1", cores.byteAt(1, 0x10), 0x66);
    }

    /**
     * Every byte is filled, then all are asked, a part of them of each object: with
     * the lower 8 bits of its place, and with the higher 8, so no two places have
     * the same bytes both times.
     */
    private static void eachByteIsApart() {
        for (int machine = 0; machine < 2; machine++) {
            for (int shift = 0; shift <= 4; shift += 4) {
                for (int from = 0; from < 4096; from += 256) {
                    TwinCores cores = filled(machine, shift);
                    for (int place = from; place < from + 256; place++) {
                        CHECK.same("byte " + place + " of " + machine, cores.byteAt(machine, place), place >> shift & 255);
                    }
                }
            }
        }
    }

    private static TwinCores filled(int machine, int shift) {
        TwinCores cores = new TwinCores();
        for (int place = 0; place < 4096; place += 16) {
            int[] four = new int[4];
            for (int i = 0; i < 16; i++) {
                four[i / 4] |= (place + i >> shift & 255) << 24 - 8 * (i % 4);
            }
            cores.load(machine, place, four[0], four[1], four[2], four[3], 0, 16);
        }
        return cores;
    }

    private static void wrongInputs() {
        TwinCores cores = new TwinCores();
        int[] noMachines = {-1, 2, Integer.MIN_VALUE, Integer.MAX_VALUE};
        for (int m : noMachines) {
            CHECK.noIndex("load machine " + m, () -> cores.load(m, 0, -1, 0, 0, 0, 0, 1));
            CHECK.noIndex("load machine and n " + m, () -> cores.load(m, 0, -1, 0, 0, 0, 0, 0));
            CHECK.noIndex("byteAt machine " + m, () -> cores.byteAt(m, 0));
        }
        int[] noPlaces = {-1, 65536, Integer.MIN_VALUE, Integer.MAX_VALUE};
        for (int place : noPlaces) {
            CHECK.noIndex("load place " + place, () -> cores.load(0, place, -1, -1, -1, -1, -1, 20));
            CHECK.noIndex("load place and n " + place, () -> cores.load(0, place, -1, 0, 0, 0, 0, 21));
            CHECK.noIndex("byteAt place " + place, () -> cores.byteAt(1, place));
        }
        int[] noCounts = {0, 21, -1, Integer.MIN_VALUE, Integer.MAX_VALUE};
        for (int n : noCounts) {
            CHECK.noArgument("load n " + n, () -> cores.load(0, 65535, -1, -1, -1, -1, -1, n));
        }
        for (int place = 0; place < 24; place++) {
            CHECK.same("nothing changed", cores.byteAt(0, 0xFFFF + place & 0xFFFF), 0);
        }
        cores.load(0, 65535, -1, 0, 0, 0, 0, 1);
        CHECK.same("the last place", cores.byteAt(0, 65535), 255);
    }
}
