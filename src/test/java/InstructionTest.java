import java.util.HashSet;
import java.util.Set;

/** Every code on each machine: what it does, by every way, and the codes that a machine stands at. */
final class InstructionTest {
    private static final int A = 0x91;
    private static final int X = 0x85;
    private static final int Y = 0xC7;
    private static final int PLACE_OF_BYTE = 0x456;
    private static final String LIKE_LDA = "A9 # A5 z B5 zx AD a BD ax B9 ay A1 (x B1 )y";
    private static final Check CHECK = new Check();
    private static final Set<Integer> SEEN = new HashSet<>();

    private static int machine;

    public static void main(String[] args) {
        for (machine = 0; machine < 2; machine++) {
            SEEN.clear();
            everyCode();
        }
        CHECK.end();
    }

    private static void everyCode() {
        loads();
        withA();
        comparisons();
        stores();
        changes();
        changesOfA();
        registers();
        flags();
        stack();
        jumps();
        branches();
        edgesOfWays();
        CHECK.same("codes seen", SEEN.size(), 151);
        others();
    }

    private static int hex(String digits) {
        return Integer.parseInt(digits, 16);
    }

    /**
     * The instruction at $300, by a way that tells a place; the byte is put there,
     * or behind the code. The indexes go over the edges of page 0 and of memory.
     */
    private static Bench byWay(int code, String way, int value, int p) {
        SEEN.add(code);
        Bench bench = new Bench();
        int place = placeOf(way);
        bench.put(machine, 0x10, "56 14").put(machine, 0x20, "8F 13");
        bench.put(machine, 0x300, String.format("%02X ", code) + operand(way, value));
        if (!way.equals("#")) {
            bench.put(machine, place, String.format("%02X", value));
        }
        return bench.stateAt(machine, 0x300, A, X, Y, 0xFD, p).go(machine, 1);
    }

    private static int placeOf(String way) {
        switch (way) {
            case "#": return 0x301;
            case "z": return 0x9E;
            case "zx": return 0x15;
            case "zy": return 0x57;
            default: return PLACE_OF_BYTE;
        }
    }

    private static String operand(String way, int value) {
        switch (way) {
            case "#": return String.format("%02X", value);
            case "z": return "9E";
            case "zx": return "90";
            case "zy": return "90";
            case "a": return "56 24";
            case "ax": return "D1 F3";
            case "ay": return "8F 03";
            case "(x": return "8B";
            default: return "20";
        }
    }

    private static int behind(String way) {
        return way.startsWith("a") ? 0x303 : 0x302;
    }

    private static void is(String what, Bench bench, int a, int x, int y, int s, int p, int pc) {
        int[] due = {a, x, y, s, p, pc, 0};
        for (int k = 0; k < 7; k++) {
            CHECK.same(what + ": register " + k, bench.cores.register(machine, k), due[k]);
        }
    }

    private interface Due {
        void look(String what, Bench bench, int pc, int place);
    }

    private static void eachWay(String name, String ways, int less, int value, int p, Due due) {
        String[] words = ways.split(" ");
        for (int i = 0; i < words.length; i += 2) {
            int code = hex(words[i]) - less;
            String way = words[i + 1];
            String what = name + " " + words[i] + " " + way;
            due.look(what, byWay(code, way, value, p), behind(way), placeOf(way));
        }
    }

    private static void load(String name, String ways, int register) {
        int[][] valuesAndFlags = {{0x37, 0x6D}, {0xF2, 0xED}, {0x00, 0x6F}};
        for (int[] row : valuesAndFlags) {
            eachWay(name, ways, 0, row[0], 0x6D | (row[0] == 0 ? 0x80 : 0x02), (what, bench, pc, place) ->
                    is(what, bench, register == 0 ? row[0] : A, register == 1 ? row[0] : X,
                            register == 2 ? row[0] : Y, 0xFD, row[1], pc));
        }
    }

    private static void loads() {
        load("LDA", LIKE_LDA, 0);
        load("LDX", "A2 # A6 z B6 zy AE a BE ay", 1);
        load("LDY", "A0 # A4 z B4 zx AC a BC ax", 2);
    }

    /** A is $91, the byte as told; P before and after. */
    private static void group(String name, int less, int value, int before, int a, int after) {
        eachWay(name, LIKE_LDA, 0xA0 - less, value, before,
                (what, bench, pc, place) -> is(what, bench, a, X, Y, 0xFD, after, pc));
    }

    private static void withA() {
        group("ORA", 0x00, 0x26, 0x67, 0xB7, 0xE5);
        group("ORA", 0x00, 0x91, 0x20, 0x91, 0xA0);
        group("AND", 0x20, 0x33, 0xE3, 0x11, 0x61);
        group("AND", 0x20, 0x6E, 0x20, 0x00, 0x22);
        group("EOR", 0x40, 0x91, 0xA0, 0x00, 0x22);
        group("EOR", 0x40, 0x0F, 0x63, 0x9E, 0xE1);
        group("ADC", 0x60, 0x90, 0x20, 0x21, 0x61);
        group("ADC", 0x60, 0x20, 0x69, 0xB2, 0xA8);
        group("ADC", 0x60, 0x6E, 0xE1, 0x00, 0x23);
        group("SBC", 0xE0, 0x21, 0x21, 0x70, 0x61);
        group("SBC", 0xE0, 0x91, 0x20, 0xFF, 0xA0);
        group("SBC", 0xE0, 0x91, 0x69, 0x00, 0x2B);
        group("CMP", 0xC0, 0x91, 0x64, 0x91, 0x67);
        group("CMP", 0xC0, 0x92, 0x63, 0x91, 0xE0);
        group("CMP", 0xC0, 0x90, 0xA2, 0x91, 0x21);
    }

    private static void unchanged(String name, String ways, int value, int before, int after) {
        eachWay(name, ways, 0, value, before, (what, bench, pc, place) -> is(what, bench, A, X, Y, 0xFD, after, pc));
    }

    private static void comparisons() {
        String cpx = "E0 # E4 z EC a";
        unchanged("CPX", cpx, 0x85, 0x64, 0x67);
        unchanged("CPX", cpx, 0x86, 0x23, 0xA0);
        unchanged("CPX", cpx, 0x05, 0x22, 0xA1);
        String cpy = "C0 # C4 z CC a";
        unchanged("CPY", cpy, 0xC7, 0x64, 0x67);
        unchanged("CPY", cpy, 0xC8, 0x23, 0xA0);
        unchanged("CPY", cpy, 0xC0, 0xA2, 0x21);
        String bit = "24 z 2C a";
        unchanged("BIT", bit, 0x6E, 0xA1, 0x63);
        unchanged("BIT", bit, 0x81, 0x62, 0xA0);
        unchanged("BIT", bit, 0xC0, 0x22, 0xE0);
        unchanged("BIT", bit, 0x10, 0xE3, 0x21);
    }

    private static void store(String name, String ways, int stored) {
        for (int p = 0x21; p <= 0xE1; p += 0xC0) {
            int flags = p;
            eachWay(name, ways, 0, 0x00, flags, (what, bench, pc, place) -> {
                is(what, bench, A, X, Y, 0xFD, flags, pc);
                CHECK.same(what + ": the byte", bench.cores.byteAt(machine, place), stored);
                CHECK.same(what + ": the byte behind it", bench.cores.byteAt(machine, place + 1), 0);
            });
        }
    }

    private static void stores() {
        store("STA", "85 z 95 zx 8D a 9D ax 99 ay 81 (x 91 )y", A);
        store("STX", "86 z 96 zy 8E a", X);
        store("STY", "84 z 94 zx 8C a", Y);
    }

    private static void change(String name, String ways, int value, int before, int result, int after) {
        eachWay(name, ways, 0, value, before, (what, bench, pc, place) -> {
            is(what, bench, A, X, Y, 0xFD, after, pc);
            CHECK.same(what + ": the byte", bench.cores.byteAt(machine, place), result);
        });
    }

    private static void changes() {
        String asl = "06 z 16 zx 0E a 1E ax";
        change("ASL", asl, 0xC1, 0x21, 0x82, 0xA1);
        change("ASL", asl, 0x80, 0xE0, 0x00, 0x63);
        change("ASL", asl, 0x01, 0x23, 0x02, 0x20);
        String rol = "26 z 36 zx 2E a 3E ax";
        change("ROL", rol, 0xC1, 0x21, 0x83, 0xA1);
        change("ROL", rol, 0x80, 0xE0, 0x00, 0x63);
        change("ROL", rol, 0x00, 0x23, 0x01, 0x20);
        String lsr = "46 z 56 zx 4E a 5E ax";
        change("LSR", lsr, 0x83, 0xA1, 0x41, 0x21);
        change("LSR", lsr, 0x01, 0xE0, 0x00, 0x63);
        change("LSR", lsr, 0x02, 0x23, 0x01, 0x20);
        String ror = "66 z 76 zx 6E a 7E ax";
        change("ROR", ror, 0x83, 0x21, 0xC1, 0xA1);
        change("ROR", ror, 0x01, 0xE0, 0x00, 0x63);
        change("ROR", ror, 0x00, 0x23, 0x80, 0xA0);
        String dec = "C6 z D6 zx CE a DE ax";
        change("DEC", dec, 0x00, 0x63, 0xFF, 0xE1);
        change("DEC", dec, 0x01, 0xA0, 0x00, 0x22);
        change("DEC", dec, 0x80, 0xA3, 0x7F, 0x21);
        String inc = "E6 z F6 zx EE a FE ax";
        change("INC", inc, 0xFF, 0xE0, 0x00, 0x62);
        change("INC", inc, 0x7F, 0x23, 0x80, 0xA1);
        change("INC", inc, 0x00, 0xA3, 0x01, 0x21);
    }

    /** One code alone at $300: registers as A X Y S P before and behind it. */
    private static Bench alone(String name, int code, String before, String after) {
        SEEN.add(code);
        int[] b = Bench.bytesOf(before);
        int[] d = Bench.bytesOf(after);
        Bench bench = new Bench().put(machine, 0x300, String.format("%02X", code));
        bench.stateAt(machine, 0x300, b[0], b[1], b[2], b[3], b[4]).go(machine, 1);
        is(name, bench, d[0], d[1], d[2], d[3], d[4], 0x301);
        return bench;
    }

    private static void changesOfA() {
        alone("ASL A", 0x0A, "C1 22 33 FD 21", "82 22 33 FD A1");
        alone("ASL A", 0x0A, "80 22 33 FD E0", "00 22 33 FD 63");
        alone("ROL A", 0x2A, "41 22 33 FD A1", "83 22 33 FD A0");
        alone("ROL A", 0x2A, "80 22 33 FD E0", "00 22 33 FD 63");
        alone("LSR A", 0x4A, "01 22 33 FD A0", "00 22 33 FD 23");
        alone("LSR A", 0x4A, "82 22 33 FD E3", "41 22 33 FD 60");
        alone("ROR A", 0x6A, "02 22 33 FD 21", "81 22 33 FD A0");
        alone("ROR A", 0x6A, "01 22 33 FD E0", "00 22 33 FD 63");
    }

    private static final int[] VALUES = {0x00, 0x01, 0x7F, 0x80, 0xFF};
    private static final int[] STATES = {0x20, 0xEF};

    /** One register comes into another, or into itself, with so much more. */
    private static void move(String name, int code, int from, int to, int more, boolean setsFlags) {
        for (int value : VALUES) {
            for (int p : STATES) {
                int[] before = {0x5A, 0x22, 0x33, 0xF0};
                before[from] = value;
                int[] after = before.clone();
                after[to] = value + more & 0xFF;
                alone(name + " of " + value, code, row(before, p), row(after, setsFlags ? shown(p, after[to]) : p));
            }
        }
    }

    private static String row(int[] r, int p) {
        return String.format("%02X %02X %02X %02X %02X", r[0], r[1], r[2], r[3], p);
    }

    /** P with N and Z by a byte. */
    private static int shown(int p, int value) {
        return p & 0x7D | (value > 127 ? 0x80 : 0) | (value == 0 ? 0x02 : 0);
    }

    private static void registers() {
        move("TAX", 0xAA, Bench.A, Bench.X, 0, true);
        move("TAY", 0xA8, Bench.A, Bench.Y, 0, true);
        move("TXA", 0x8A, Bench.X, Bench.A, 0, true);
        move("TYA", 0x98, Bench.Y, Bench.A, 0, true);
        move("TSX", 0xBA, Bench.S, Bench.X, 0, true);
        move("TXS", 0x9A, Bench.X, Bench.S, 0, false);
        move("INX", 0xE8, Bench.X, Bench.X, 1, true);
        move("INY", 0xC8, Bench.Y, Bench.Y, 1, true);
        move("DEX", 0xCA, Bench.X, Bench.X, -1, true);
        move("DEY", 0x88, Bench.Y, Bench.Y, -1, true);
        move("NOP", 0xEA, Bench.A, Bench.A, 0, false);
    }

    /** From no flag, and from all of them. */
    private static void flag(String name, int code, int bit, boolean on) {
        for (int p : STATES) {
            alone(name, code, row(new int[] {1, 0x22, 0x33, 0xF0}, p), row(new int[] {1, 0x22, 0x33, 0xF0}, on ? p | bit : p & ~bit));
        }
    }

    private static void flags() {
        flag("CLC", 0x18, 0x01, false);
        flag("SEC", 0x38, 0x01, true);
        flag("CLI", 0x58, 0x04, false);
        flag("SEI", 0x78, 0x04, true);
        flag("CLV", 0xB8, 0x40, false);
        flag("CLD", 0xD8, 0x08, false);
        flag("SED", 0xF8, 0x08, true);
    }

    private static void stack() {
        Bench bench = alone("PHA", 0x48, "81 22 33 F0 22", "81 22 33 EF 22");
        CHECK.same("PHA's byte", bench.cores.byteAt(machine, 0x1F0), 0x81);
        bench = alone("PHA at the end", 0x48, "00 22 33 00 A0", "00 22 33 FF A0");
        CHECK.same("PHA's byte at the end", bench.cores.byteAt(machine, 0x100), 0x00);
        bench = alone("PHP", 0x08, "81 22 33 F0 C9", "81 22 33 EF E9");
        CHECK.same("PHP's byte has bits 4 and 5", bench.cores.byteAt(machine, 0x1F0), 0xF9);
        pull("PLA", 0x68, 0x00, "81 22 33 F0 A1", "00 22 33 F1 23");
        pull("PLA", 0x68, 0xA5, "81 22 33 F0 23", "A5 22 33 F1 A1");
        pull("PLP", 0x28, 0xFF, "81 22 33 F0 20", "81 22 33 F1 EF");
        pull("PLP", 0x28, 0x00, "81 22 33 F0 EF", "81 22 33 F1 20");
        pull("PLP", 0x28, 0x5A, "81 22 33 F0 25", "81 22 33 F1 6A");
        Bench round = new Bench().put(machine, 0x100, "77").put(machine, 0x300, "68").stateAt(machine, 0x300, 1, 2, 3, 0xFF, 0x20).go(machine, 1);
        is("PLA goes round", round, 0x77, 2, 3, 0x00, 0x20, 0x301);
    }

    private static void pull(String name, int code, int pulled, String before, String after) {
        SEEN.add(code);
        int[] b = Bench.bytesOf(before);
        int[] d = Bench.bytesOf(after);
        Bench bench = new Bench().put(machine, 0x1F1, String.format("%02X", pulled)).put(machine, 0x300, String.format("%02X", code));
        bench.stateAt(machine, 0x300, b[0], b[1], b[2], b[3], b[4]).go(machine, 1);
        is(name + " of " + pulled, bench, d[0], d[1], d[2], d[3], d[4], 0x301);
        CHECK.same(name + ": the byte stays", bench.cores.byteAt(machine, 0x1F1), pulled);
    }

    private static Bench coded(String code, int s, int p) {
        SEEN.add(Bench.bytesOf(code)[0]);
        return new Bench().put(machine, 0x300, code).stateAt(machine, 0x300, 1, 2, 3, s, p);
    }

    private static void jumps() {
        is("JMP a", coded("4C 34 92", 0xFD, 0xE3).go(machine, 1), 1, 2, 3, 0xFD, 0xE3, 0x9234);
        is("JMP of the word at a", coded("6C 80 04", 0xFD, 0xE3).put(machine, 0x480, "CD AB").go(machine, 1), 1, 2, 3, 0xFD, 0xE3, 0xABCD);
        is("6C stays in the page", coded("6C FF 04", 0xFD, 0x20).put(machine, 0x4FF, "CD AB").put(machine, 0x400, "77").go(machine, 1),
                1, 2, 3, 0xFD, 0x20, 0x77CD);
        Bench call = coded("20 34 92", 0xFD, 0xE3).go(machine, 1);
        is("JSR", call, 1, 2, 3, 0xFB, 0xE3, 0x9234);
        CHECK.same("JSR: the higher byte", call.cores.byteAt(machine, 0x1FD), 0x03);
        CHECK.same("JSR: the lower byte", call.cores.byteAt(machine, 0x1FC), 0x02);
        Bench round = coded("20 34 92", 0x00, 0x20).go(machine, 1);
        is("JSR goes round", round, 1, 2, 3, 0xFE, 0x20, 0x9234);
        CHECK.same("JSR goes round: higher", round.cores.byteAt(machine, 0x100), 0x03);
        CHECK.same("JSR goes round: lower", round.cores.byteAt(machine, 0x1FF), 0x02);
        is("RTS", coded("60", 0xF0, 0xE3).put(machine, 0x1F1, "FF 12").go(machine, 1), 1, 2, 3, 0xF2, 0xE3, 0x1300);
        is("RTS over the end", coded("60", 0xF0, 0x20).put(machine, 0x1F1, "FF FF").go(machine, 1), 1, 2, 3, 0xF2, 0x20, 0x0000);
        is("RTI", coded("40", 0xF0, 0x20).put(machine, 0x1F1, "DB 34 12").go(machine, 1), 1, 2, 3, 0xF3, 0xEB, 0x1234);
        Bench brk = coded("00", 0xF0, 0xC9).vector(machine, 0xFFFE, 0xABCD).go(machine, 1);
        is("BRK", brk, 1, 2, 3, 0xED, 0xED, 0xABCD);
        CHECK.same("BRK: higher", brk.cores.byteAt(machine, 0x1F0), 0x03);
        CHECK.same("BRK: lower", brk.cores.byteAt(machine, 0x1EF), 0x02);
        CHECK.same("BRK: P", brk.cores.byteAt(machine, 0x1EE), 0xF9);
        Bench atTheEnd = new Bench().start(machine, 0xFFFE, "20").put(machine, 0xFFFF, "34 12").go(machine, 1);
        CHECK.same("an instruction over the end", atTheEnd.cores.register(machine, Bench.PC), 0x1234);
        CHECK.same("JSR from there: higher", atTheEnd.cores.byteAt(machine, 0x1FD), 0x00);
        CHECK.same("JSR from there: lower", atTheEnd.cores.byteAt(machine, 0x1FC), 0x00);
    }

    private static void branches() {
        int[][] codesFlagsWanted = {
            {0x10, 0x80, 0}, {0x30, 0x80, 1}, {0x50, 0x40, 0}, {0x70, 0x40, 1},
            {0x90, 0x01, 0}, {0xB0, 0x01, 1}, {0xD0, 0x02, 0}, {0xF0, 0x02, 1},
        };
        int[][] bytesAndPlaces = {{0x00, 0x302}, {0x7F, 0x381}, {0x80, 0x282}, {0xFE, 0x300}};
        for (int[] row : codesFlagsWanted) {
            int[] states = {0x20, 0x20 | row[1], 0xEF & ~row[1], 0xEF};
            for (int p : states) {
                boolean goes = ((p & row[1]) != 0) == (row[2] == 1);
                for (int[] jump : bytesAndPlaces) {
                    Bench bench = coded(String.format("%02X %02X", row[0], jump[0]), 0xFD, p).go(machine, 1);
                    is("branch " + row[0] + " P " + p, bench, 1, 2, 3, 0xFD, p, goes ? jump[1] : 0x302);
                }
            }
        }
        Bench back = new Bench().start(machine, 0x0000, "D0 80").go(machine, 1);
        CHECK.same("a branch below 0", back.cores.register(machine, Bench.PC), 0xFF82);
        Bench on = new Bench().start(machine, 0xFFF0, "D0 7F").go(machine, 1);
        CHECK.same("a branch over the end", on.cores.register(machine, Bench.PC), 0x0071);
    }

    /** Words in page 0 go round there, places with an index go round at 65536. */
    private static void edgesOfWays() {
        Bench bench = new Bench().put(machine, 0xFF, "34").put(machine, 0x00, "06").put(machine, 0x634, "5A").put(machine, 0x300, "A1 FA");
        is("(x at $FF", bench.stateAt(machine, 0x300, 1, 5, 3, 0xFD, 0x20).go(machine, 1), 0x5A, 5, 3, 0xFD, 0x20, 0x302);
        bench = new Bench().put(machine, 0xFF, "34").put(machine, 0x00, "06").put(machine, 0x637, "5A").put(machine, 0x300, "B1 FF");
        is(")y at $FF", bench.stateAt(machine, 0x300, 1, 5, 3, 0xFD, 0x20).go(machine, 1), 0x5A, 5, 3, 0xFD, 0x20, 0x302);
        bench = new Bench().put(machine, 0x20, "FE FF").put(machine, 0x03, "5A").put(machine, 0x300, "B1 20");
        is(")y over the end", bench.stateAt(machine, 0x300, 1, 2, 5, 0xFD, 0x20).go(machine, 1), 0x5A, 2, 5, 0xFD, 0x20, 0x302);
        bench = new Bench().put(machine, 0x01, "5A").put(machine, 0x300, "BD FF FF");
        is("ax over the end", bench.stateAt(machine, 0x300, 1, 2, 5, 0xFD, 0x20).go(machine, 1), 0x5A, 2, 5, 0xFD, 0x20, 0x303);
        bench = new Bench().put(machine, 0x04, "5A").put(machine, 0x300, "B9 FF FF");
        is("ay over the end", bench.stateAt(machine, 0x300, 1, 2, 5, 0xFD, 0x20).go(machine, 1), 0x5A, 2, 5, 0xFD, 0x20, 0x303);
        int near = Bench.portPlace(machine, 1) & 0xFF;
        bench = new Bench().put(machine, 0x600 + near, "5A").writes(machine, 0xFE00 + near, 0x11);
        bench.put(machine, 0x300, String.format("BD %02X 06", near - 1));
        is("ax near a port's byte", bench.stateAt(machine, 0x300, 1, 1, 5, 0xFD, 0x20).go(machine, 1), 0x5A, 1, 5, 0xFD, 0x20, 0x303);
    }

    /** The machine stands at each other code, and nothing else comes of it. */
    private static void others() {
        int stood = 0;
        for (int code = 0; code < 256; code++) {
            if (SEEN.contains(code)) {
                continue;
            }
            stood++;
            Bench bench = new Bench().put(machine, 0x300, String.format("%02X 10 10", code)).stateAt(machine, 0x300, 1, 2, 3, 0xF0, 0xC9);
            long steps = bench.cores.steps(machine);
            bench.go(machine, 5);
            int[] due = {1, 2, 3, 0xF0, 0xE9, 0x300, 1};
            for (int k = 0; k < 7; k++) {
                CHECK.same("code " + code + " register " + k, bench.cores.register(machine, k), due[k]);
            }
            CHECK.same("steps", bench.cores.steps(machine), steps + 1);
        }
        CHECK.same("codes to stand at", stood, 105);
    }
}
