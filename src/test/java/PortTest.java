/** Promise 7, port, promise 8, waits, and the rows, the status and the flags of the unit. */
final class PortTest {
    private static final int FIRST = 0xFEE0;
    private static final int SECOND = 0xFEF8;
    private static final Check CHECK = new Check();

    public static void main(String[] args) {
        lengths();
        bytesComeInTheirOrder();
        theLongRowGoesRound();
        latestIsReadAgain();
        statusTellsBothWays();
        flagsAreSetAndUnset();
        onlyTheFirstWritesFlags();
        thirdPortNeedsFlagV();
        bytesOverTheLengthStay();
        portsAreAtOnePlaceAlone();
        readingByAnyWay();
        wrongInputs();
        CHECK.end();
    }

    /** Writes nine or more bytes at each port and looks how many wait. */
    private static void lengths() {
        int[] toSecond = {1, 1, 1, 1};
        int[] toFirst = {24, 1, 1, 1};
        for (int port = 1; port <= 4; port++) {
            Bench bench = new Bench();
            fillFromFirst(bench, port, 9);
            fillFromSecond(bench, port, 30);
            CHECK.same("to 1 at port " + port, bench.cores.waits(1, port), toSecond[port - 1]);
            CHECK.same("to 0 at port " + port, bench.cores.waits(0, port), toFirst[port - 1]);
            CHECK.same("the first one stays", bench.cores.port(1, 2 * port - 1), 1);
            CHECK.same("the first one stays", bench.cores.port(0, 2 * port - 1), 1);
            for (int other = 1; other <= 4; other++) {
                if (other != port) {
                    CHECK.same("none at port " + other, bench.cores.waits(0, other) + bench.cores.waits(1, other), 0);
                }
            }
        }
    }

    private static String place(int base, int k) {
        return String.format("%02X FE", (base & 0xFF) + k);
    }

    /** Bytes 1, 2, .. from machine 0: INX, STX the port, JMP. */
    private static void fillFromFirst(Bench bench, int port, int bytes) {
        bench.start(0, 0x200, "A2 00 E8 8E " + place(FIRST, 2 * port - 1) + " 4C 02 02");
        bench.first(1 + 3 * bytes);
    }

    private static void fillFromSecond(Bench bench, int port, int bytes) {
        bench.start(1, 0x300, "A2 00 E8 8E " + place(SECOND, 2 * port - 1) + " 4C 02 03");
        bench.second(1 + 3 * bytes);
    }

    private static void bytesComeInTheirOrder() {
        Bench bench = new Bench();
        fillFromSecond(bench, 1, 24);
        CHECK.same("24 wait", bench.cores.waits(0, 1), 24);
        for (int i = 1; i <= 24; i++) {
            CHECK.same("looked at", bench.cores.port(0, 1), i);
            CHECK.same("looking takes none", bench.cores.waits(0, 1), 25 - i);
            CHECK.same("read", bench.firstReads(FIRST + 1), i);
            CHECK.same("one less waits", bench.cores.waits(0, 1), 24 - i);
        }
    }

    private static void theLongRowGoesRound() {
        Bench bench = new Bench();
        fillFromSecond(bench, 1, 20);
        for (int i = 1; i <= 15; i++) {
            CHECK.same("read", bench.firstReads(FIRST + 1), i);
        }
        fillFromSecond(bench, 1, 30);
        CHECK.same("24 wait", bench.cores.waits(0, 1), 24);
        for (int i = 16; i <= 20; i++) {
            CHECK.same("read of the older ones", bench.firstReads(FIRST + 1), i);
        }
        for (int i = 1; i <= 19; i++) {
            CHECK.same("read of the newer ones", bench.firstReads(FIRST + 1), i);
        }
        CHECK.same("none waits", bench.cores.waits(0, 1), 0);
    }

    private static void latestIsReadAgain() {
        for (int port = 1; port <= 4; port++) {
            Bench bench = new Bench();
            int k = 2 * port - 1;
            CHECK.same("0 at first", bench.firstReads(FIRST + k), 0);
            CHECK.same("0 at first", bench.secondReads(SECOND + k), 0);
            bench.firstWrites(FIRST + k, 0xC0 + port);
            CHECK.same("waits for 1 alone", bench.firstReads(FIRST + k), 0);
            CHECK.same("port looks at it", bench.cores.port(1, k), 0xC0 + port);
            CHECK.same("read", bench.secondReads(SECOND + k), 0xC0 + port);
            CHECK.same("read again", bench.secondReads(SECOND + k), 0xC0 + port);
            CHECK.same("port too", bench.cores.port(1, k), 0xC0 + port);
            bench.secondWrites(SECOND + k, 0x30 + port);
            CHECK.same("the other way", bench.firstReads(FIRST + k), 0x30 + port);
            CHECK.same("again", bench.firstReads(FIRST + k), 0x30 + port);
            CHECK.same("that of 1 stays", bench.secondReads(SECOND + k), 0xC0 + port);
            for (int other = 1; other <= 7; other += 2) {
                CHECK.same("the other ports", bench.cores.port(0, other), other == k ? 0x30 + port : 0);
            }
        }
    }

    private static void statusTellsBothWays() {
        for (int port = 2; port <= 4; port++) {
            Bench bench = new Bench();
            int k = 2 * port - 2;
            CHECK.same("room alone", bench.cores.port(0, k), 0x7F);
            bench.firstWrites(FIRST + k + 1, 1);
            CHECK.same("no room", bench.cores.port(0, k), 0x3F);
            CHECK.same("a byte and room", bench.cores.port(1, k), 0xFF);
            bench.secondWrites(SECOND + k + 1, 1);
            CHECK.same("a byte, no room", bench.cores.port(0, k), 0xBF);
            CHECK.same("a byte, no room", bench.cores.port(1, k), 0xBF);
            CHECK.same("0 reads its status", bench.firstReads(FIRST + k), 0xBF);
            CHECK.same("1 reads its status", bench.secondReads(SECOND + k), 0xBF);
            CHECK.same("without that a byte goes", bench.cores.waits(0, port) + bench.cores.waits(1, port), 2);
            bench.firstReads(FIRST + k + 1);
            CHECK.same("room again", bench.cores.port(1, k), 0xFF);
            CHECK.same("no byte", bench.cores.port(0, k), 0x3F);
        }
        Bench bench = new Bench();
        fillFromSecond(bench, 1, 23);
        CHECK.same("room for the 24th", bench.cores.port(1, 0), 0x40);
        CHECK.same("bytes for 0", bench.cores.port(0, 0), 0xC0);
        fillFromSecond(bench, 1, 1);
        CHECK.same("none for the 25th", bench.cores.port(1, 0), 0x00);
    }

    private static void flagsAreSetAndUnset() {
        for (int bit = 0; bit < 6; bit++) {
            Bench bench = new Bench();
            bench.firstWrites(FIRST, 0x80 | 1 << bit);
            CHECK.same("set, seen by 0", bench.cores.port(0, 0), 0x40 | 1 << bit);
            CHECK.same("set, seen by 1", bench.cores.port(1, 0), 0x40 | 1 << bit);
            CHECK.same("other ports show 1s", bench.cores.port(1, 2), 0x7F);
            bench.firstWrites(FIRST, 0x3F & ~(1 << bit));
            CHECK.same("not named, so it stays", bench.cores.port(0, 0), 0x40 | 1 << bit);
            bench.firstWrites(FIRST, 1 << bit);
            CHECK.same("unset", bench.cores.port(0, 0), 0x40);
        }
        Bench bench = new Bench();
        bench.firstWrites(FIRST, 0xC5);
        CHECK.same("bit 6 is no flag", bench.cores.port(0, 0), 0x45);
        bench.firstWrites(FIRST, 0x8A);
        CHECK.same("set beside the others", bench.cores.port(0, 0), 0x4F);
        bench.firstWrites(FIRST, 0x41);
        CHECK.same("bit 6 is no flag here either", bench.cores.port(0, 0), 0x4E);
        bench.firstWrites(FIRST, 0x80);
        bench.firstWrites(FIRST, 0x00);
        CHECK.same("none is named", bench.cores.port(0, 0), 0x4E);
        CHECK.same("0 reads them", bench.firstReads(FIRST), 0x4E);
        CHECK.same("a byte is not kept below", bench.cores.byteAt(0, FIRST), 0);
    }

    private static void onlyTheFirstWritesFlags() {
        Bench bench = new Bench();
        for (int k = 0; k < 8; k += 2) {
            bench.secondWrites(SECOND + k, 0xFF);
            CHECK.same("1 writes at " + k, bench.cores.port(0, 0), 0x40);
        }
        for (int k = 2; k < 8; k += 2) {
            bench.firstWrites(FIRST + k, 0xFF);
            CHECK.same("0 writes at " + k, bench.cores.port(0, 0), 0x40);
        }
        for (int port = 1; port <= 4; port++) {
            CHECK.same("nothing waits", bench.cores.waits(0, port) + bench.cores.waits(1, port), 0);
        }
    }

    private static void thirdPortNeedsFlagV() {
        Bench bench = new Bench();
        bench.firstWrites(FIRST, 0x90);
        fillFromFirst(bench, 3, 5);
        fillFromSecond(bench, 3, 5);
        CHECK.same("two for 1", bench.cores.waits(1, 3), 2);
        CHECK.same("two for 0", bench.cores.waits(0, 3), 2);
        CHECK.same("the first", bench.secondReads(SECOND + 5), 1);
        CHECK.same("room for one", bench.cores.port(0, 4), 0xFF);
        CHECK.same("the second", bench.secondReads(SECOND + 5), 2);
        for (int port = 1; port <= 4; port++) {
            fillFromFirst(bench, port, 5);
            CHECK.same("port " + port + " with V", bench.cores.waits(1, port), port == 3 ? 2 : 1);
        }
        Bench others = new Bench();
        others.firstWrites(FIRST, 0x8F);
        fillFromFirst(others, 3, 5);
        CHECK.same("with all flags but V and P", others.cores.waits(1, 3), 1);
    }

    private static void bytesOverTheLengthStay() {
        Bench bench = new Bench();
        bench.firstWrites(FIRST, 0x90);
        fillFromFirst(bench, 3, 2);
        bench.firstWrites(FIRST, 0x10);
        CHECK.same("both still wait", bench.cores.waits(1, 3), 2);
        CHECK.same("the first", bench.secondReads(SECOND + 5), 1);
        CHECK.same("still no room", bench.cores.port(0, 4), 0x3F);
        bench.firstWrites(FIRST + 5, 9);
        CHECK.same("lost", bench.cores.waits(1, 3), 1);
        CHECK.same("the second", bench.secondReads(SECOND + 5), 2);
        CHECK.same("room", bench.cores.port(0, 4), 0x7F);
    }

    private static void portsAreAtOnePlaceAlone() {
        Bench bench = new Bench();
        bench.firstWrites(SECOND + 1, 0x21).firstWrites(0xEE1, 0x22).firstWrites(FIRST - 1, 0x23).firstWrites(FIRST + 8, 0x24);
        CHECK.same("ports of 1 are memory of 0", bench.cores.byteAt(0, SECOND + 1), 0x21);
        CHECK.same("$0EE1 is memory", bench.cores.byteAt(0, 0xEE1), 0x22);
        CHECK.same("$FEDF is memory", bench.cores.byteAt(0, 0xEDF), 0x23);
        CHECK.same("$FEE8 is memory", bench.cores.byteAt(0, 0xEE8), 0x24);
        bench.secondWrites(FIRST + 1, 0x31).secondWrites(0xEF9, 0x32).secondWrites(SECOND - 1, 0x33).secondWrites(SECOND + 8, 0x34);
        CHECK.same("ports of 0 are memory of 1", bench.cores.byteAt(1, FIRST + 1), 0x31);
        CHECK.same("$0EF9 is memory", bench.cores.byteAt(1, 0xEF9), 0x32);
        CHECK.same("$FEF7 is memory", bench.cores.byteAt(1, 0xEF7), 0x33);
        CHECK.same("$FF00 is memory", bench.cores.byteAt(1, 0xF00), 0x34);
        CHECK.same("nothing waits", bench.cores.waits(0, 1) + bench.cores.waits(1, 1), 0);
        CHECK.same("0 reads $0EE1", bench.firstReads(0xEE1), 0x22);
        CHECK.same("1 reads $1EF9", bench.secondReads(0x1EF9), 0x32);
        CHECK.same("0 reads $FEDF", bench.firstReads(FIRST - 1), 0x23);
        CHECK.same("0 reads $FEE8", bench.firstReads(FIRST + 8), 0x24);
        CHECK.same("1 reads $FEF7", bench.secondReads(SECOND - 1), 0x33);
        CHECK.same("1 reads $0EF8 beside its ports", bench.secondReads(0xEF8), 0);
    }

    /** A byte goes by whatever reads it, and comes by whatever writes it. */
    private static void readingByAnyWay() {
        Bench bench = new Bench();
        fillFromSecond(bench, 1, 24);
        bench.put(0, 0x10, "E1 FE DC FE");
        bench.start(0, 0x200, "A2 05 A0 05 BD DC FE B9 DC FE A1 0B B1 12 AE E1 FE 2C E1 FE EE E1 FE 6C E0 FE");
        bench.first(9);
        CHECK.same("seven bytes went", bench.cores.waits(0, 1), 17);
        CHECK.same("LDA )y read the fourth", bench.cores.register(0, Bench.A), 4);
        CHECK.same("LDX a read the fifth", bench.cores.register(0, Bench.X), 5);
        CHECK.same("INC sent the seventh and 1", bench.cores.port(1, 1), 8);
        bench.first(1);
        CHECK.same("6C: status below, the eighth byte above", bench.cores.register(0, Bench.PC), 0x0880);
        bench.start(0, 0xFEDF, "A9").first(1);
        CHECK.same("an instruction's own byte is read at the port", bench.cores.register(0, Bench.A), 0x80);
        bench.put(1, 0xFFFC, "F9 FE");
        bench.cores.reset(1);
        bench.second(1);
        CHECK.same("code is read at a port", bench.cores.waits(1, 1), 0);
        CHECK.same("8 is PHP", bench.cores.register(1, Bench.PC), 0xFEFA);
    }

    private static void wrongInputs() {
        Bench bench = new Bench();
        int[] noMachines = {-1, 2, Integer.MIN_VALUE, Integer.MAX_VALUE};
        for (int m : noMachines) {
            CHECK.noIndex("port of machine " + m, () -> bench.cores.port(m, 0));
            CHECK.noIndex("waits of machine " + m, () -> bench.cores.waits(m, 1));
        }
        int[] noPlaces = {-1, 8, Integer.MIN_VALUE, Integer.MAX_VALUE};
        for (int k : noPlaces) {
            CHECK.noIndex("port " + k, () -> bench.cores.port(1, k));
        }
        int[] noPorts = {0, 5, -1, Integer.MIN_VALUE, Integer.MAX_VALUE};
        for (int port : noPorts) {
            CHECK.noIndex("waits " + port, () -> bench.cores.waits(0, port));
        }
    }
}
