/** Each wrap-around of a machine: the stack, the ways, PC, the words and the branches. */
final class WrapTest {
    private static final Check CHECK = new Check();

    private interface OnMachine {
        void test(int machine);
    }

    public static void main(String[] args) {
        onBoth("STACK: a byte put there goes to S, which is one less then", WrapTest::puttingGoesRound);
        onBoth("STACK: taken, S is one more, then from there", WrapTest::takingGoesRound);
        onBoth("STACK: JSR's two bytes go round", WrapTest::callGoesRound);
        onBoth("STACK: RTS's two bytes go round", WrapTest::returnGoesRound);
        onBoth("STACK: BRK's three bytes go round", WrapTest::breakGoesRound);
        onBoth("STACK: RTI's three bytes go round", WrapTest::returnFromBreakGoesRound);
        onBoth("zx, zy: modulo 256", WrapTest::zeroPageGoesRound);
        onBoth("zx, zy: modulo 256 when written and changed", WrapTest::zeroPageGoesRoundWhenWritten);
        onBoth("ax, ay: over the last place", WrapTest::indexedGoesRound);
        onBoth("ax, ay: within 16 bits the page changes", WrapTest::indexedChangesPage);
        onBoth("(x: both bytes modulo 256", WrapTest::wordByXGoesRound);
        onBoth(")y: the word likewise", WrapTest::wordBeforeYGoesRound);
        onBoth(")y: and Y, over the last place", WrapTest::placeByYGoesRound);
        onBoth("6C: its higher byte from the same page", WrapTest::jumpStaysInPage);
        onBoth("PC: code goes over the last place", WrapTest::codeGoesRound);
        onBoth("JSR: PC behind it less 1", WrapTest::callAtTheEnd);
        onBoth("RTS: taken, and 1 more", WrapTest::returnAtTheEnd);
        onBoth("BRK: PC and 2", WrapTest::breakAtTheEnd);
        onBoth("branches: a byte with a sign", WrapTest::branchDistances);
        onBoth("branches: over both ends", WrapTest::branchesGoRound);
        onBoth("INC, INX, INY: 255 and 1 is 0", WrapTest::upGoesRound);
        onBoth("DEC, DEX, DEY: 0 less 1 is 255", WrapTest::downGoesRound);
        CHECK.end();
    }

    private static void onBoth(String told, OnMachine test) {
        for (int machine = 0; machine < 2; machine++) {
            int number = machine;
            CHECK.test(told + ", machine " + machine, () -> test.test(number));
        }
    }

    /** Obeys one instruction at $300; flags are all 0 but those that P tells. */
    private static Bench obeyed(Bench bench, int machine, String code, int a, int x, int y, int s) {
        bench.put(machine, 0x300, code);
        return bench.stateAt(machine, 0x300, a, x, y, s, 0x20).go(machine, 1);
    }

    private static void is(String what, Bench bench, int machine, int register, int due) {
        CHECK.same(what, bench.cores.register(machine, register), due);
    }

    private static void bytes(String what, Bench bench, int machine, int place, String due) {
        int[] bytes = Bench.bytesOf(due);
        for (int i = 0; i < bytes.length; i++) {
            CHECK.same(what + " at " + (place + i), bench.cores.byteAt(machine, place + i), bytes[i]);
        }
    }

    /** What is before and behind the stack's page, to see that it stays. */
    private static Bench withNeighbours(int machine) {
        return new Bench().put(machine, 0xFF, "71").put(machine, 0x200, "72");
    }

    private static void neighboursStay(Bench bench, int machine) {
        bytes("before the stack", bench, machine, 0xFF, "71");
        bytes("behind the stack", bench, machine, 0x200, "72");
    }

    private static void puttingGoesRound(int machine) {
        int[][] beforeAndAfter = {{0x00, 0xFF}, {0x01, 0x00}, {0xFF, 0xFE}};
        for (int[] s : beforeAndAfter) {
            Bench bench = obeyed(withNeighbours(machine), machine, "48", 0x5A, 0, 0, s[0]);
            is("S behind PHA", bench, machine, Bench.S, s[1]);
            bytes("PHA's byte", bench, machine, 0x100 + s[0], "5A");
            neighboursStay(bench, machine);
            bench = obeyed(withNeighbours(machine), machine, "08", 0, 0, 0, s[0]);
            is("S behind PHP", bench, machine, Bench.S, s[1]);
            bytes("PHP's byte", bench, machine, 0x100 + s[0], "30");
            neighboursStay(bench, machine);
        }
    }

    private static void takingGoesRound(int machine) {
        int[][] beforeAndAfter = {{0xFF, 0x00}, {0xFE, 0xFF}, {0x00, 0x01}};
        for (int[] s : beforeAndAfter) {
            Bench bench = withNeighbours(machine).put(machine, 0x100 + s[1], "C3");
            obeyed(bench, machine, "68", 0, 0, 0, s[0]);
            is("S behind PLA", bench, machine, Bench.S, s[1]);
            is("PLA's byte", bench, machine, Bench.A, 0xC3);
            bench = withNeighbours(machine).put(machine, 0x100 + s[1], "C3");
            obeyed(bench, machine, "28", 0, 0, 0, s[0]);
            is("S behind PLP", bench, machine, Bench.S, s[1]);
            is("PLP's byte, with bit 5", bench, machine, Bench.P, 0xE3);
        }
    }

    private static void callGoesRound(int machine) {
        Bench bench = obeyed(withNeighbours(machine), machine, "20 34 02", 0, 0, 0, 0x00);
        is("S", bench, machine, Bench.S, 0xFE);
        bytes("higher", bench, machine, 0x100, "03");
        bytes("lower", bench, machine, 0x1FF, "02");
        neighboursStay(bench, machine);
    }

    private static void returnGoesRound(int machine) {
        Bench bench = withNeighbours(machine).put(machine, 0x1FF, "34").put(machine, 0x100, "12");
        obeyed(bench, machine, "60", 0, 0, 0, 0xFE);
        is("S", bench, machine, Bench.S, 0x00);
        is("PC", bench, machine, Bench.PC, 0x1235);
        bench = withNeighbours(machine).put(machine, 0x100, "34 12");
        obeyed(bench, machine, "60", 0, 0, 0, 0xFF);
        is("S from $FF", bench, machine, Bench.S, 0x01);
        is("PC from $FF", bench, machine, Bench.PC, 0x1235);
    }

    private static void breakGoesRound(int machine) {
        String[] lowBytes = {"03", "02 03", "30 02 03"};
        String[] highBytes = {"30 02", "30", ""};
        for (int s = 0; s < 3; s++) {
            Bench bench = obeyed(withNeighbours(machine), machine, "00", 0, 0, 0, s);
            is("S", bench, machine, Bench.S, s - 3 & 0xFF);
            bytes("from S " + s, bench, machine, 0x100, lowBytes[s]);
            bytes("from S " + s, bench, machine, 0x1FE + s, highBytes[s]);
            neighboursStay(bench, machine);
        }
    }

    private static void returnFromBreakGoesRound(int machine) {
        for (int s = 0xFC; s <= 0xFF; s++) {
            Bench bench = withNeighbours(machine);
            int[] pulled = {0xC3, 0x34, 0x12};
            for (int i = 0; i < 3; i++) {
                bench.put(machine, 0x100 + (s + 1 + i & 0xFF), String.format("%02X", pulled[i]));
            }
            obeyed(bench, machine, "40", 0, 0, 0, s);
            is("S", bench, machine, Bench.S, s + 3 & 0xFF);
            is("P", bench, machine, Bench.P, 0xE3);
            is("PC", bench, machine, Bench.PC, 0x1234);
        }
    }

    private static final int[][] ZERO_PAGE = {
        // the byte behind, the index, the place
        {0xFF, 0x00, 0xFF}, {0xFF, 0x01, 0x00}, {0x80, 0x7F, 0xFF}, {0x80, 0x80, 0x00}, {0xFF, 0xFF, 0xFE}, {0x00, 0xFF, 0xFF},
    };

    private static Bench zeroPageRow(int machine, int place) {
        return withNeighbours(machine).put(machine, 0x100, "13 13 13 13").put(machine, place, "99");
    }

    private static void zeroPageGoesRound(int machine) {
        for (int[] row : ZERO_PAGE) {
            String behind = String.format(" %02X", row[0]);
            Bench bench = obeyed(zeroPageRow(machine, row[2]), machine, "B5" + behind, 0, row[1], 0, 0xFD);
            is("LDA zx", bench, machine, Bench.A, 0x99);
            bench = obeyed(zeroPageRow(machine, row[2]), machine, "B4" + behind, 0, row[1], 0, 0xFD);
            is("LDY zx", bench, machine, Bench.Y, 0x99);
            bench = obeyed(zeroPageRow(machine, row[2]), machine, "B6" + behind, 0, 0, row[1], 0xFD);
            is("LDX zy", bench, machine, Bench.X, 0x99);
        }
    }

    private static void zeroPageGoesRoundWhenWritten(int machine) {
        for (int[] row : ZERO_PAGE) {
            String behind = String.format(" %02X", row[0]);
            Bench bench = obeyed(new Bench(), machine, "95" + behind, 0x5A, row[1], 0, 0xFD);
            bytes("STA zx", bench, machine, row[2], "5A");
            bench = obeyed(new Bench(), machine, "94" + behind, 0, row[1], 0x5B, 0xFD);
            bytes("STY zx", bench, machine, row[2], "5B");
            bench = obeyed(new Bench(), machine, "96" + behind, 0, 0x5C, row[1], 0xFD);
            bytes("STX zy", bench, machine, row[2], "5C");
            bench = obeyed(zeroPageRow(machine, row[2]), machine, "F6" + behind, 0, row[1], 0, 0xFD);
            bytes("INC zx", bench, machine, row[2], "9A");
        }
    }

    private static void indexedGoesRound(int machine) {
        Bench bench = new Bench().put(machine, 0x0000, "41 42").put(machine, 0xFFFF, "40").put(machine, 0xFE, "43");
        int[][] indexAndDue = {{0x00, 0x40}, {0x01, 0x41}, {0x02, 0x42}, {0xFF, 0x43}};
        for (int[] row : indexAndDue) {
            obeyed(bench, machine, "BD FF FF", 0, row[0], 0, 0xFD);
            is("LDA ax", bench, machine, Bench.A, row[1]);
            obeyed(bench, machine, "B9 FF FF", 0, 0, row[0], 0xFD);
            is("LDA ay", bench, machine, Bench.A, row[1]);
        }
        bytes("STA ax", obeyed(new Bench(), machine, "9D FF FF", 0x5A, 1, 0, 0xFD), machine, 0, "5A");
        bytes("STA ay", obeyed(new Bench(), machine, "99 FF FF", 0x5A, 0, 1, 0xFD), machine, 0, "5A");
    }

    private static void indexedChangesPage(int machine) {
        Bench bench = new Bench().put(machine, 0x4FF, "31 32").put(machine, 0x400, "33").put(machine, 0x5FE, "34");
        int[][] indexAndDue = {{0x00, 0x31}, {0x01, 0x32}, {0xFF, 0x34}};
        for (int[] row : indexAndDue) {
            obeyed(bench, machine, "BD FF 04", 0, row[0], 0, 0xFD);
            is("LDA ax", bench, machine, Bench.A, row[1]);
            obeyed(bench, machine, "BE FF 04", 0, 0, row[0], 0xFD);
            is("LDX ay", bench, machine, Bench.X, row[1]);
        }
    }

    private static void wordByXGoesRound(int machine) {
        int[][] behindAndX = {{0xFF, 0x00}, {0xFE, 0x01}, {0x80, 0x7F}, {0x00, 0xFF}, {0xFF, 0x01}, {0x81, 0x7F}};
        for (int[] row : behindAndX) {
            int at = row[0] + row[1] & 0xFF;
            Bench bench = withNeighbours(machine).put(machine, 0x100, "0B");
            bench.put(machine, at, "34").put(machine, at + 1 & 0xFF, "06").put(machine, 0x634, "5A");
            obeyed(bench, machine, String.format("A1 %02X", row[0]), 0, row[1], 0, 0xFD);
            is("LDA (x of " + row[0], bench, machine, Bench.A, 0x5A);
            obeyed(bench, machine, String.format("81 %02X", row[0]), 0x66, row[1], 0, 0xFD);
            bytes("STA (x of " + row[0], bench, machine, 0x634, "66");
        }
    }

    private static void wordBeforeYGoesRound(int machine) {
        for (int at = 0xFE; at <= 0x100; at++) {
            Bench bench = new Bench().put(machine, 0x100, "0B");
            bench.put(machine, at & 0xFF, "34").put(machine, at + 1 & 0xFF, "06").put(machine, 0x636, "5A");
            obeyed(bench, machine, String.format("B1 %02X", at & 0xFF), 0, 0, 2, 0xFD);
            is("LDA )y of " + at, bench, machine, Bench.A, 0x5A);
            obeyed(bench, machine, String.format("91 %02X", at & 0xFF), 0x66, 0, 2, 0xFD);
            bytes("STA )y of " + at, bench, machine, 0x636, "66");
        }
    }

    private static void placeByYGoesRound(int machine) {
        Bench bench = new Bench().put(machine, 0x20, "FF FF").put(machine, 0xFFFF, "40").put(machine, 0x00, "41");
        bench.put(machine, 0xFE, "42").put(machine, 0x22, "FF 04").put(machine, 0x500, "43").put(machine, 0x400, "44");
        obeyed(bench, machine, "B1 20", 0, 0, 0x00, 0xFD);
        is("Y 0", bench, machine, Bench.A, 0x40);
        obeyed(bench, machine, "B1 20", 0, 0, 0x01, 0xFD);
        is("Y 1", bench, machine, Bench.A, 0x41);
        obeyed(bench, machine, "B1 20", 0, 0, 0xFF, 0xFD);
        is("Y 255", bench, machine, Bench.A, 0x42);
        obeyed(bench, machine, "B1 22", 0, 0, 0x01, 0xFD);
        is("into the next page", bench, machine, Bench.A, 0x43);
    }

    private static void jumpStaysInPage(int machine) {
        int[][] atAndHigher = {{0x4FE, 0x4FF}, {0x4FF, 0x400}, {0x400, 0x401}, {0x0FF, 0x000}, {0xFFFF, 0xFF00}, {0xF4FF, 0xF400}};
        for (int[] row : atAndHigher) {
            Bench bench = new Bench().put(machine, row[0] + 1 & 0xFFFF, "77");
            bench.put(machine, row[0], "CD").put(machine, row[1], "AB");
            obeyed(bench, machine, String.format("6C %02X %02X", row[0] & 0xFF, row[0] >> 8), 0, 0, 0, 0xFD);
            is("6C by " + row[0], bench, machine, Bench.PC, 0xABCD);
        }
    }

    private static void codeGoesRound(int machine) {
        Bench bench = new Bench().start(machine, 0xFFFF, "E8").go(machine, 1);
        is("one byte at the last place", bench, machine, Bench.PC, 0x0000);
        bench = new Bench().start(machine, 0xFFFF, "A9").put(machine, 0, "5A").go(machine, 1);
        is("its byte behind is at 0", bench, machine, Bench.A, 0x5A);
        is("PC behind it", bench, machine, Bench.PC, 0x0001);
        bench = new Bench().start(machine, 0xFFFE, "A9 5B").go(machine, 1);
        is("its byte is the last", bench, machine, Bench.A, 0x5B);
        is("PC behind that", bench, machine, Bench.PC, 0x0000);
        bench = new Bench().put(machine, 0x634, "5C").start(machine, 0xFFFE, "AD 34").put(machine, 0, "06").go(machine, 1);
        is("a word over the end", bench, machine, Bench.A, 0x5C);
        is("PC behind the word", bench, machine, Bench.PC, 0x0001);
        bench = new Bench().put(machine, 0x634, "5D").start(machine, 0xFFFF, "AD").put(machine, 0, "34 06").go(machine, 1);
        is("a word behind the end", bench, machine, Bench.A, 0x5D);
        is("PC behind that word", bench, machine, Bench.PC, 0x0002);
    }

    private static void callAtTheEnd(int machine) {
        Bench bench = new Bench().start(machine, 0xFFFE, "20 34").put(machine, 0, "06").go(machine, 1);
        is("PC", bench, machine, Bench.PC, 0x0634);
        bytes("from $FFFE", bench, machine, 0x1FC, "00 00");
        bench = new Bench().start(machine, 0xFFFF, "20").put(machine, 0, "34 06").go(machine, 1);
        is("PC", bench, machine, Bench.PC, 0x0634);
        bytes("from $FFFF", bench, machine, 0x1FC, "01 00");
        bench = calledAtFFFD(machine);
        is("PC", bench, machine, Bench.PC, 0x0634);
        bytes("PC behind it is 0, less 1", bench, machine, 0x1FC, "FF FF");
        bench = new Bench().start(machine, 0x3FD, "20 34 06").go(machine, 1);
        bytes("PC behind it is a page's first", bench, machine, 0x1FC, "FF 03");
    }

    /** JSR's code is there the higher byte of RESET's word too, so RESET goes to $20F0 and a jump from there. */
    private static Bench calledAtFFFD(int machine) {
        Bench bench = new Bench().put(machine, 0xFFFC, "F0 20 34 06").put(machine, 0x20F0, "4C FD FF");
        bench.cores.reset(machine);
        return bench.go(machine, 2);
    }

    private static void returnAtTheEnd(int machine) {
        String[] words = {"FF FF", "FE FF", "FF 03", "00 00"};
        int[] due = {0x0000, 0xFFFF, 0x0400, 0x0001};
        for (int i = 0; i < words.length; i++) {
            Bench bench = new Bench().put(machine, 0x1F1, words[i]);
            obeyed(bench, machine, "60", 0, 0, 0, 0xF0);
            is("RTS to " + words[i], bench, machine, Bench.PC, due[i]);
        }
    }

    private static void breakAtTheEnd(int machine) {
        int[][] placeAndPushed = {{0xFFFF, 0x0001}, {0xFFFE, 0x0000}, {0x03FE, 0x0400}, {0x03FD, 0x03FF}};
        for (int[] row : placeAndPushed) {
            Bench bench = new Bench().start(machine, row[0], "00").go(machine, 1);
            bytes("BRK at " + row[0], bench, machine, 0x1FC, String.format("%02X %02X", row[1] & 0xFF, row[1] >> 8));
        }
    }

    private static void branchDistances(int machine) {
        int[][] byteAndPlace = {{0x7F, 0x581}, {0x80, 0x482}, {0xFF, 0x501}, {0x00, 0x502}, {0x01, 0x503}, {0xFE, 0x500}};
        for (int[] row : byteAndPlace) {
            Bench bench = new Bench().start(machine, 0x500, String.format("D0 %02X", row[0])).go(machine, 1);
            is("branch by " + row[0], bench, machine, Bench.PC, row[1]);
            bench = new Bench().start(machine, 0x500, String.format("F0 %02X", row[0])).go(machine, 1);
            is("none by " + row[0], bench, machine, Bench.PC, 0x502);
        }
    }

    private static void branchesGoRound(int machine) {
        int[][] placeByteAndDue = {
            {0x0000, 0x80, 0xFF82}, {0x0000, 0xFD, 0xFFFF}, {0x0000, 0xFE, 0x0000},
            {0xFFF0, 0x0D, 0xFFFF}, {0xFFF0, 0x0E, 0x0000}, {0xFFF0, 0x7F, 0x0071}, {0xFFFE, 0xFF, 0xFFFF}, {0xFFFE, 0x00, 0x0000},
        };
        for (int[] row : placeByteAndDue) {
            Bench bench = new Bench().start(machine, row[0], String.format("D0 %02X", row[1])).go(machine, 1);
            is("from " + row[0] + " by " + row[1], bench, machine, Bench.PC, row[2]);
        }
    }

    private static void upGoesRound(int machine) {
        Bench bench = obeyed(new Bench(), machine, "E8", 1, 0xFF, 2, 0xFD);
        is("INX", bench, machine, Bench.X, 0);
        is("INX's flags", bench, machine, Bench.P, 0x22);
        bench = obeyed(new Bench(), machine, "C8", 1, 2, 0xFF, 0xFD);
        is("INY", bench, machine, Bench.Y, 0);
        is("INY's flags", bench, machine, Bench.P, 0x22);
        bench = obeyed(new Bench().put(machine, 0x40, "FF 10"), machine, "E6 40", 1, 2, 3, 0xFD);
        bytes("INC, and the byte behind stays", bench, machine, 0x40, "00 10");
        is("INC's flags", bench, machine, Bench.P, 0x22);
    }

    private static void downGoesRound(int machine) {
        Bench bench = obeyed(new Bench(), machine, "CA", 1, 0, 2, 0xFD);
        is("DEX", bench, machine, Bench.X, 0xFF);
        is("DEX's flags", bench, machine, Bench.P, 0xA0);
        bench = obeyed(new Bench(), machine, "88", 1, 2, 0, 0xFD);
        is("DEY", bench, machine, Bench.Y, 0xFF);
        is("DEY's flags", bench, machine, Bench.P, 0xA0);
        bench = obeyed(new Bench().put(machine, 0x40, "00 10"), machine, "C6 40", 1, 2, 3, 0xFD);
        bytes("DEC, and the byte behind stays", bench, machine, 0x40, "FF 10");
        is("DEC's flags", bench, machine, Bench.P, 0xA0);
    }
}
