/** The edges of the rows: full, empty, going round, what flag V changes, and what the status tells of it. */
final class RowEdgeTest {
    private static final int[][] LENGTHS = {{1, 1, 2, 1}, {24, 1, 2, 1}};
    private static final Check CHECK = new Check();

    /** A row from a machine at a port, with flag V or without. */
    private interface OnRow {
        void test(int from, int port, boolean v);
    }

    public static void main(String[] args) {
        onEach("so many bytes long, and without room it is lost", RowEdgeTest::fills);
        onEach("the first one that waits goes", RowEdgeTest::empties);
        onEach("without one: the one read there the latest time, 0 at first", RowEdgeTest::readsWhenEmpty);
        onEach("a row is used over and over", RowEdgeTest::goesRound);
        onEach("bits 7 and 6 of the status at each fill", RowEdgeTest::statusAtEachFill);
        onEach("a read status takes nothing", RowEdgeTest::statusTakesNothing);
        onEach("a byte lost is not read later", RowEdgeTest::lostForGood);
        onEach("a change of a byte at a port: one goes, one comes", RowEdgeTest::changeAtPort);
        CHECK.test("read, the first one goes: none goes that is not read", RowEdgeTest::notReadDoesNotGo);
        CHECK.test("V becomes 1 with a full row: room for one more", RowEdgeTest::becomesLonger);
        CHECK.test("V becomes 0 with an empty row: one alone", RowEdgeTest::becomesShorterEmpty);
        CHECK.test("V becomes 0 with one waiting: no room", RowEdgeTest::becomesShorterWithOne);
        CHECK.test("V becomes 0 with two waiting: both come, and no room before", RowEdgeTest::becomesShorterWithTwo);
        CHECK.test("V changes port 3 alone", RowEdgeTest::otherPortsStay);
        CHECK.test("of other ports bits 0 to 5 are 1", RowEdgeTest::otherStatusBits);
        CHECK.test("bit 7 whether those that are 1 become 1 or 0: each byte", RowEdgeTest::eachFlagByte);
        CHECK.test("Other writes to a status do nothing", RowEdgeTest::otherWrites);
        CHECK.test("port and waits: without that anything goes", RowEdgeTest::askingTakesNothing);
        CHECK.end();
    }

    private static void onEach(String told, OnRow test) {
        for (int i = 0; i < 16; i++) {
            int from = i / 8;
            int port = i / 2 % 4 + 1;
            boolean v = i % 2 == 1;
            String row = ": from " + from + " at port " + port + (v ? " with V" : "");
            CHECK.test(told + row, () -> test.test(from, port, v));
        }
    }

    private static Bench bench(boolean v) {
        return v ? new Bench().flags(Bench.SET | Bench.FLAG_V) : new Bench();
    }

    private static int lengthOf(int from, int port, boolean v) {
        return port == 3 && !v ? 1 : LENGTHS[from][port - 1];
    }

    private static void send(Bench bench, int from, int port, int value) {
        bench.writes(from, Bench.portPlace(from, 2 * port - 1), value);
    }

    private static int receive(Bench bench, int from, int port) {
        return bench.reads(1 - from, Bench.portPlace(1 - from, 2 * port - 1));
    }

    /** Sends value, value + 1 and so on by one piece of code, which takes few calls. */
    private static void sendMany(Bench bench, int from, int port, int value, int bytes) {
        int place = Bench.portPlace(from, 2 * port - 1);
        bench.start(from, 0x200, String.format("A2 %02X 8E %02X FE E8 4C 02 02", value, place & 0xFF)).go(from, 3 * bytes);
    }

    private static void waits(String what, Bench bench, int from, int port, int due) {
        CHECK.same(what + ": waits", bench.cores.waits(1 - from, port), due);
    }

    private static void fills(int from, int port, boolean v) {
        Bench bench = bench(v);
        int length = lengthOf(from, port, v);
        for (int sent = 1; sent <= length + 2; sent++) {
            send(bench, from, port, 0x30 + sent);
            waits("sent " + sent, bench, from, port, Math.min(sent, length));
            CHECK.same("the first one", bench.cores.port(1 - from, 2 * port - 1), 0x31);
        }
        for (int other = 1; other <= 4; other++) {
            CHECK.same("none the other way at " + other, bench.cores.waits(from, other), 0);
            CHECK.same("only at this port, " + other, bench.cores.waits(1 - from, other), other == port ? length : 0);
        }
    }

    private static void empties(int from, int port, boolean v) {
        Bench bench = bench(v);
        int length = lengthOf(from, port, v);
        sendMany(bench, from, port, 0x41, length);
        for (int i = 0; i < length; i++) {
            waits("before byte " + i, bench, from, port, length - i);
            CHECK.same("looked at", bench.cores.port(1 - from, 2 * port - 1), 0x41 + i);
            CHECK.same("read", receive(bench, from, port), 0x41 + i);
        }
        waits("behind the last", bench, from, port, 0);
    }

    private static void readsWhenEmpty(int from, int port, boolean v) {
        Bench bench = bench(v);
        int k = 2 * port - 1;
        CHECK.same("0 at first", bench.cores.port(1 - from, k), 0);
        CHECK.same("0 is read at first", receive(bench, from, port), 0);
        waits("read at first", bench, from, port, 0);
        send(bench, from, port, 0xA7);
        CHECK.same("read", receive(bench, from, port), 0xA7);
        for (int again = 0; again < 3; again++) {
            CHECK.same("looked at again", bench.cores.port(1 - from, k), 0xA7);
            CHECK.same("read again", receive(bench, from, port), 0xA7);
            waits("read again", bench, from, port, 0);
        }
        send(bench, from, port, 0x00);
        CHECK.same("0 is a byte as well", receive(bench, from, port), 0);
        CHECK.same("and the latest now", receive(bench, from, port), 0);
        CHECK.same("the sender has none of it", bench.cores.port(from, k), 0);
    }

    /** Three times its length and more, so that its end is passed at several fills. */
    private static void goesRound(int from, int port, boolean v) {
        Bench bench = bench(v);
        int length = lengthOf(from, port, v);
        int atOnce = length > 2 ? 17 : length;
        int next = 1;
        for (int round = 0; round < 5; round++) {
            sendMany(bench, from, port, next, atOnce);
            waits("round " + round, bench, from, port, atOnce);
            bench.start(1 - from, 0x400, takingInto500(1 - from, port, atOnce)).go(1 - from, 5 * atOnce);
            for (int i = 0; i < atOnce; i++) {
                CHECK.same("round " + round + ", byte " + i, bench.cores.byteAt(1 - from, 0x501 + i), next + i);
            }
            next += atOnce;
        }
    }

    /** LDX, then for each byte LDA the port, INX, STA $500 and X, CPX, BNE; behind the last a jump to itself. */
    private static String takingInto500(int machine, int port, int bytes) {
        int place = Bench.portPlace(machine, 2 * port - 1);
        return String.format("A2 00 AD %02X FE E8 9D 00 05 E0 %02X D0 F5 4C 0D 04", place & 0xFF, bytes);
    }

    private static void statusAtEachFill(int from, int port, boolean v) {
        Bench bench = bench(v);
        int length = lengthOf(from, port, v);
        int low = port > 1 ? 0x3F : v ? Bench.FLAG_V : 0;
        int k = 2 * port - 2;
        for (int waiting = 0; waiting <= length; waiting++) {
            int room = waiting < length ? 0x40 : 0;
            CHECK.same("of the sender with " + waiting, bench.cores.port(from, k), low | room);
            int some = waiting > 0 ? 0x80 : 0;
            CHECK.same("of the reader with " + waiting, bench.cores.port(1 - from, k), low | some | 0x40);
            send(bench, from, port, 0x11);
        }
        receive(bench, from, port);
        CHECK.same("room again", bench.cores.port(from, k), low | 0x40);
        CHECK.same("bytes left or none", bench.cores.port(1 - from, k), low | 0x40 | (length > 1 ? 0x80 : 0));
    }

    private static void statusTakesNothing(int from, int port, boolean v) {
        Bench bench = bench(v);
        int length = lengthOf(from, port, v);
        sendMany(bench, from, port, 1, length);
        int k = 2 * port - 2;
        for (int machine = 0; machine < 2; machine++) {
            int seen = bench.cores.port(machine, k);
            CHECK.same("read as looked at", bench.reads(machine, Bench.portPlace(machine, k)), seen);
        }
        waits("behind it", bench, from, port, length);
        CHECK.same("the first one", receive(bench, from, port), 1);
    }

    private static void lostForGood(int from, int port, boolean v) {
        Bench bench = bench(v);
        int length = lengthOf(from, port, v);
        sendMany(bench, from, port, 1, length + 1);
        for (int i = 1; i <= length; i++) {
            CHECK.same("kept", receive(bench, from, port), i);
        }
        CHECK.same("the latest, not the lost one", receive(bench, from, port), length);
        send(bench, from, port, 0xEE);
        CHECK.same("the next one that had room", receive(bench, from, port), 0xEE);
    }

    /** INC reads the port's byte, which goes, and writes one that goes the other way. */
    private static void changeAtPort(int from, int port, boolean v) {
        Bench bench = bench(v);
        send(bench, from, port, 0x7F);
        int place = Bench.portPlace(1 - from, 2 * port - 1);
        bench.start(1 - from, 0x200, String.format("EE %02X FE", place & 0xFF)).go(1 - from, 1);
        waits("the byte went", bench, from, port, 0);
        waits("one came the other way", bench, 1 - from, port, 1);
        CHECK.same("it is one more", bench.cores.port(from, 2 * port - 1), 0x80);
        CHECK.same("the latest is what was read", bench.cores.port(1 - from, 2 * port - 1), 0x7F);
    }

    /**
     * By stores to the port itself, by an index that goes past it into the next page,
     * and by codes without a byte behind them, of which the port's would be the first.
     */
    private static void notReadDoesNotGo() {
        for (int machine = 0; machine < 2; machine++) {
            int low = Bench.portPlace(machine, 1) & 0xFF;
            staysWaiting(machine, 0x300, String.format("8D %02X FE", low));
            staysWaiting(machine, 0x300, String.format("8E %02X FE", low));
            staysWaiting(machine, 0x300, String.format("8C %02X FE", low));
            staysWaiting(machine, 0x300, String.format("9D %02X FE", low));
            staysWaiting(machine, 0x300, String.format("99 %02X FE", low));
            staysWaiting(machine, 0x300, String.format("A2 F0 BD %02X FE", low + 16));
            for (int code : Model.CODES.keySet()) {
                if (Model.CODES.get(code)[1].equals("-")) {
                    staysWaiting(machine, Bench.portPlace(machine, -1), String.format("%02X", code));
                }
            }
        }
    }

    /** Runs one instruction, and LDX before it where it has one, while a byte of port 1 waits. */
    private static void staysWaiting(int machine, int place, String code) {
        Bench bench = new Bench();
        send(bench, 1 - machine, 1, 0x5A);
        int steps = code.startsWith("A2") ? 2 : 1;
        bench.start(machine, place, code).go(machine, steps);
        CHECK.same(code + ": still waits", bench.cores.waits(machine, 1), 1);
        CHECK.same(code + ": the same byte", bench.cores.port(machine, 1), 0x5A);
    }

    private static void becomesLonger() {
        for (int from = 0; from < 2; from++) {
            Bench bench = new Bench();
            sendMany(bench, from, 3, 1, 2);
            CHECK.same("no room with V 0", bench.cores.port(from, 4), 0x3F);
            bench.flags(Bench.SET | Bench.FLAG_V);
            waits("the lost one does not come back", bench, from, 3, 1);
            CHECK.same("room with V 1", bench.cores.port(from, 4), 0x7F);
            send(bench, from, 3, 0x55);
            waits("one more", bench, from, 3, 2);
            CHECK.same("full again", bench.cores.port(from, 4), 0x3F);
            CHECK.same("the first", receive(bench, from, 3), 1);
            CHECK.same("the second", receive(bench, from, 3), 0x55);
        }
    }

    private static void becomesShorterEmpty() {
        for (int from = 0; from < 2; from++) {
            Bench bench = bench(true).flags(Bench.FLAG_V);
            sendMany(bench, from, 3, 1, 2);
            waits("one alone", bench, from, 3, 1);
            CHECK.same("no room", bench.cores.port(from, 4), 0x3F);
        }
    }

    private static void becomesShorterWithOne() {
        for (int from = 0; from < 2; from++) {
            Bench bench = bench(true);
            send(bench, from, 3, 1);
            CHECK.same("room before", bench.cores.port(from, 4), 0x7F);
            bench.flags(Bench.FLAG_V);
            CHECK.same("no room", bench.cores.port(from, 4), 0x3F);
            send(bench, from, 3, 2);
            waits("it still is one", bench, from, 3, 1);
            CHECK.same("the first", receive(bench, from, 3), 1);
            CHECK.same("room again", bench.cores.port(from, 4), 0x7F);
        }
    }

    private static void becomesShorterWithTwo() {
        for (int from = 0; from < 2; from++) {
            Bench bench = bench(true);
            sendMany(bench, from, 3, 1, 2);
            bench.flags(Bench.FLAG_V);
            waits("both wait", bench, from, 3, 2);
            CHECK.same("no room with two", bench.cores.port(from, 4), 0x3F);
            CHECK.same("the first", receive(bench, from, 3), 1);
            CHECK.same("no room with one", bench.cores.port(from, 4), 0x3F);
            send(bench, from, 3, 9);
            CHECK.same("the second", receive(bench, from, 3), 2);
            CHECK.same("room with none", bench.cores.port(from, 4), 0x7F);
            CHECK.same("what had no room is lost", receive(bench, from, 3), 2);
        }
    }

    private static void otherPortsStay() {
        for (int port = 1; port <= 4; port++) {
            if (port == 3) {
                continue;
            }
            for (int from = 0; from < 2; from++) {
                Bench bench = bench(true);
                sendMany(bench, from, port, 1, 30);
                waits("filled with V 1", bench, from, port, LENGTHS[from][port - 1]);
                bench.flags(Bench.FLAG_V);
                waits("V became 0", bench, from, port, LENGTHS[from][port - 1]);
                CHECK.same("the first", receive(bench, from, port), 1);
                sendMany(bench, from, port, 1, 30);
                waits("filled with V 0", bench, from, port, LENGTHS[from][port - 1]);
                bench.flags(Bench.SET | Bench.FLAG_V);
                sendMany(bench, from, port, 1, 30);
                waits("V became 1", bench, from, port, LENGTHS[from][port - 1]);
            }
        }
    }

    private static void otherStatusBits() {
        for (int flags = 0; flags < 64; flags += 21) {
            Bench bench = new Bench().flags(Bench.SET | flags);
            for (int machine = 0; machine < 2; machine++) {
                CHECK.same("of port 1", bench.cores.port(machine, 0), 0x40 | flags);
                for (int k = 2; k < 8; k += 2) {
                    CHECK.same("of place " + k, bench.cores.port(machine, k), 0x7F);
                }
            }
        }
    }

    /** Bit 6 is no flag, so it makes no difference. */
    private static void eachFlagByte() {
        for (int before = 0; before < 64; before += 63) {
            Bench bench = null;
            for (int value = 0; value < 256; value++) {
                if (value % 32 == 0) {
                    bench = new Bench();
                }
                bench.flags(63).flags(Bench.SET | before).flags(value);
                int named = value & 63;
                int due = value >= 128 ? before | named : before & ~named;
                CHECK.same("byte " + value + " seen by 0", bench.cores.port(0, 0), 0x40 | due);
                CHECK.same("byte " + value + " seen by 1", bench.cores.port(1, 0), 0x40 | due);
            }
        }
    }

    private static void otherWrites() {
        int[] values = {0x00, 0x3F, 0x80, 0xBF, 0xFF};
        for (int value : values) {
            Bench bench = new Bench().flags(Bench.SET | Bench.FLAG_Q | Bench.FLAG_V);
            send(bench, 0, 2, 0x11);
            send(bench, 1, 4, 0x22);
            for (int k = 0; k < 8; k += 2) {
                bench.secondWrites(Bench.portPlace(1, k), value);
                if (k > 0) {
                    bench.firstWrites(Bench.portPlace(0, k), value);
                }
            }
            CHECK.same("flags", bench.cores.port(1, 0), 0x51);
            for (int machine = 0; machine < 2; machine++) {
                for (int port = 1; port <= 4; port++) {
                    int due = machine == 1 && port == 2 || machine == 0 && port == 4 ? 1 : 0;
                    CHECK.same("waits " + machine + " " + port, bench.cores.waits(machine, port), due);
                    CHECK.same("byte below", bench.cores.byteAt(machine, Bench.portPlace(machine, 2 * port - 2)), 0);
                }
            }
        }
    }

    private static void askingTakesNothing() {
        for (State.Past past : Pasts.ALL) {
            CHECK.sameState("asked before", () -> asked(past.made()), past);
            CHECK.sameState("asked before it runs on", () -> ranOn(asked(past.made())), () -> ranOn(past.made()));
        }
    }

    private static TwinCores asked(TwinCores cores) {
        for (int machine = 0; machine < 2; machine++) {
            for (int k = 0; k < 8; k++) {
                cores.port(machine, k);
                cores.waits(machine, k / 2 + 1);
                cores.byteAt(machine, Bench.portPlace(machine, k));
                cores.register(machine, Math.min(k, 6));
            }
            cores.steps(machine);
        }
        return cores;
    }

    private static TwinCores ranOn(TwinCores cores) {
        cores.run(41, 2);
        return cores;
    }
}
