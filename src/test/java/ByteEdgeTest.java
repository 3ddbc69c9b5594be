/** The edges of a byte in sums, comparisons and changes: the last value on each side of a flag. */
final class ByteEdgeTest {
    private static final int N = 0x80;
    private static final int V = 0x40;
    private static final int Z = 0x02;
    private static final int C = 0x01;
    private static final Check CHECK = new Check();

    public static void main(String[] args) {
        CHECK.test("ADC: C: beyond 255", ByteEdgeTest::sumBeyond255);
        CHECK.test("ADC: V: both have a sign that the sum has not", ByteEdgeTest::sumOfOtherSign);
        CHECK.test("SBC: so with all bits of the byte turned", ByteEdgeTest::differences);
        CHECK.test("D does nothing else", ByteEdgeTest::notDecimal);
        CHECK.test("CMP, CPX, CPY: C: A is not below it", ByteEdgeTest::comparisons);
        CHECK.test("BIT: Z by A and the byte, N, V its bits 7 and 6", ByteEdgeTest::bits);
        CHECK.test("ASL, ROL: C the bit that went", ByteEdgeTest::leftChanges);
        CHECK.test("LSR, ROR: C the bit that went", ByteEdgeTest::rightChanges);
        CHECK.test("INC, DEC: C stays", ByteEdgeTest::carryStays);
        CHECK.test("N, Z by what comes: 0, 127, 128, 255", ByteEdgeTest::loadedEdges);
        CHECK.end();
    }

    /** One code at $300 with its byte behind it, on both machines; all registers have the first value. */
    private static void obey(String code, int value, int before, int dueA, int dueFlags) {
        for (int machine = 0; machine < 2; machine++) {
            Bench bench = new Bench().put(machine, 0x300, code);
            bench.stateAt(machine, 0x300, value, value, value, 0xFD, before).go(machine, 1);
            String what = code + " of " + value + " with " + before;
            CHECK.same(what + ": A", bench.cores.register(machine, Bench.A), dueA);
            CHECK.same(what + ": P", bench.cores.register(machine, Bench.P), 0x20 | dueFlags);
        }
    }

    private static void sumBeyond255() {
        obey("69 01", 0xFE, 0, 0xFF, N);
        obey("69 01", 0xFE, C, 0x00, Z | C);
        obey("69 01", 0xFF, 0, 0x00, Z | C);
        obey("69 00", 0xFF, 0, 0xFF, N);
        obey("69 00", 0xFF, C, 0x00, Z | C);
        obey("69 FF", 0xFF, C, 0xFF, N | C);
        obey("69 00", 0x00, 0, 0x00, Z);
    }

    private static void sumOfOtherSign() {
        obey("69 01", 0x7E, 0, 0x7F, 0);
        obey("69 01", 0x7E, C, 0x80, N | V);
        obey("69 01", 0x7F, 0, 0x80, N | V);
        obey("69 FF", 0x81, 0, 0x80, N | C);
        obey("69 FF", 0x80, 0, 0x7F, V | C);
        obey("69 FF", 0x80, C, 0x80, N | C);
        obey("69 80", 0x7F, V | C, 0x00, Z | C);
    }

    private static void differences() {
        obey("E9 00", 0x00, C, 0x00, Z | C);
        obey("E9 01", 0x00, C, 0xFF, N);
        obey("E9 00", 0x00, 0, 0xFF, N);
        obey("E9 01", 0x01, C, 0x00, Z | C);
        obey("E9 01", 0x80, C, 0x7F, V | C);
        obey("E9 FF", 0x7F, C, 0x80, N | V);
        obey("E9 FF", 0x7F, 0, 0x7F, 0);
    }

    private static void notDecimal() {
        int d = 0x08;
        obey("69 01", 0x09, d, 0x0A, d);
        obey("69 01", 0x99, d, 0x9A, N | d);
        obey("E9 01", 0x10, d | C, 0x0F, d | C);
    }

    private static void comparisons() {
        String[] codes = {"C9", "E0", "C0"};
        for (String code : codes) {
            obey(code + " 80", 0x7F, C, 0x7F, N);
            obey(code + " 80", 0x80, 0, 0x80, Z | C);
            obey(code + " 80", 0x81, 0, 0x81, C);
            obey(code + " FF", 0x00, C, 0x00, 0);
            obey(code + " 00", 0x00, 0, 0x00, Z | C);
            obey(code + " 00", 0xFF, 0, 0xFF, N | C);
            obey(code + " FF", 0xFF, V, 0xFF, V | Z | C);
        }
    }

    /** The byte is the one behind the instruction. */
    private static void bits() {
        obey("2C 03 03 80", 0x80, V | Z, 0x80, N);
        obey("2C 03 03 40", 0x80, N, 0x80, V | Z);
        obey("2C 03 03 C0", 0x00, 0, 0x00, N | V | Z);
        obey("2C 03 03 3F", 0x01, N | V | Z | C, 0x01, C);
    }

    private static void leftChanges() {
        obey("0A", 0x7F, C, 0xFE, N);
        obey("0A", 0x80, 0, 0x00, Z | C);
        obey("0A", 0xFF, C, 0xFE, N | C);
        obey("2A", 0x7F, C, 0xFF, N);
        obey("2A", 0x80, 0, 0x00, Z | C);
        obey("2A", 0x80, C, 0x01, C);
        obey("2A", 0x00, C, 0x01, 0);
    }

    private static void rightChanges() {
        obey("4A", 0x01, C, 0x00, Z | C);
        obey("4A", 0x02, C, 0x01, 0);
        obey("4A", 0xFF, N, 0x7F, C);
        obey("6A", 0x01, 0, 0x00, Z | C);
        obey("6A", 0x01, C, 0x80, N | C);
        obey("6A", 0x00, C, 0x80, N);
        obey("6A", 0xFE, 0, 0x7F, 0);
    }

    private static void carryStays() {
        int[][] valuesAndResults = {{0xFF, 0x00, 0xFE}, {0x00, 0x01, 0xFF}, {0x7F, 0x80, 0x7E}, {0x80, 0x81, 0x7F}};
        for (int[] row : valuesAndResults) {
            for (int carry = 0; carry < 2; carry++) {
                change("E6 40", row[0], carry, row[1]);
                change("C6 40", row[0], carry, row[2]);
            }
        }
    }

    private static void change(String code, int value, int carry, int due) {
        Bench bench = new Bench().put(0, 0x40, String.format("%02X", value)).put(0, 0x300, code);
        bench.stateAt(0, 0x300, 1, 2, 3, 0xFD, carry).first(1);
        CHECK.same(code + " of " + value, bench.cores.byteAt(0, 0x40), due);
        CHECK.same(code + " of " + value + ": P", bench.cores.register(0, Bench.P), 0x20 | carry | shown(due));
    }

    private static int shown(int value) {
        return value == 0 ? Z : value > 127 ? N : 0;
    }

    private static void loadedEdges() {
        int[] values = {0x00, 0x01, 0x7F, 0x80, 0xFF};
        for (int value : values) {
            obey(String.format("A9 %02X", value), value ^ 0x55, value > 127 ? Z : N, value, shown(value));
            obey("8A", value, value > 127 ? Z : N, value, shown(value));
            obey("98", value, value > 127 ? Z : N, value, shown(value));
        }
    }
}
