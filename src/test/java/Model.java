import java.util.ArrayDeque;
import java.util.ArrayList;
import java.util.Deque;
import java.util.HashMap;
import java.util.List;
import java.util.Map;

/**
 * The document once more, written in another way than the program: the codes
 * stand as the document's own text, flags are looked up by letter, rows are
 * queues. ModelTest compares the two.
 */
final class Model {
    private static final String LIKE_LDA = "A9 # A5 z B5 zx AD a BD ax B9 ay A1 (x B1 )y";
    private static final String[] TOLD = {
        "LDA " + LIKE_LDA,
        "LDX A2 # A6 z B6 zy AE a BE ay",
        "LDY A0 # A4 z B4 zx AC a BC ax",
        "STA 85 z 95 zx 8D a 9D ax 99 ay 81 (x 91 )y",
        "STX 86 z 96 zy 8E a",
        "STY 84 z 94 zx 8C a",
        "CPX E0 # E4 z EC a",
        "CPY C0 # C4 z CC a",
        "BIT 24 z 2C a",
        "ASL 06 z 16 zx 0E a 1E ax 0A -",
        "ROL 26 z 36 zx 2E a 3E ax 2A -",
        "LSR 46 z 56 zx 4E a 5E ax 4A -",
        "ROR 66 z 76 zx 6E a 7E ax 6A -",
        "DEC C6 z D6 zx CE a DE ax",
        "INC E6 z F6 zx EE a FE ax",
        "JMP 4C a 6C (a",
        "JSR 20 a",
    };
    private static final String ALONE = "TAX AA TAY A8 TXA 8A TYA 98 TSX BA TXS 9A INX E8 INY C8 DEX CA DEY 88 "
            + "CLC 18 SEC 38 CLI 58 SEI 78 CLV B8 CLD D8 SED F8 NOP EA PHA 48 PLA 68 PHP 08 PLP 28 RTS 60 BRK 00 RTI 40";
    private static final String BRANCHES = "BPL 10 BMI 30 BVC 50 BVS 70 BCC 90 BCS B0 BNE D0 BEQ F0";
    private static final String LESS_A0 = "ORA 00 AND 20 EOR 40 ADC 60 SBC E0 CMP C0";

    /** From a code to its name and its way. */
    static final Map<Integer, String[]> CODES = codes();

    private static Map<Integer, String[]> codes() {
        Map<Integer, String[]> codes = new HashMap<>();
        for (String line : TOLD) {
            String[] words = line.split(" ");
            for (int i = 1; i < words.length; i += 2) {
                codes.put(hex(words[i]), new String[] {words[0], words[i + 1]});
            }
        }
        String[] ways = LIKE_LDA.split(" ");
        String[] group = LESS_A0.split(" ");
        for (int g = 0; g < group.length; g += 2) {
            for (int i = 0; i < ways.length; i += 2) {
                codes.put(hex(ways[i]) - 0xA0 + hex(group[g + 1]), new String[] {group[g], ways[i + 1]});
            }
        }
        addPairs(codes, ALONE, "-");
        addPairs(codes, BRANCHES, "#");
        return codes;
    }

    private static void addPairs(Map<Integer, String[]> codes, String text, String way) {
        String[] words = text.split(" ");
        for (int i = 0; i < words.length; i += 2) {
            codes.put(hex(words[i + 1]), new String[] {words[i], way});
        }
    }

    private static int hex(String digits) {
        return Integer.parseInt(digits, 16);
    }

    private static final String FLAG_ORDER = "CZID45VN";

    /** One machine's state; what it does stands in the methods of Model. */
    private static final class Core {
        final int[] bytes = new int[4096];
        final boolean[] flag = new boolean[8];
        int a;
        int x;
        int y;
        int s;
        int pc;
        boolean stands = true;
        boolean nmiWasOn;
        long steps;

        boolean is(char name) {
            return flag[FLAG_ORDER.indexOf(name)];
        }

        void set(char name, boolean on) {
            flag[FLAG_ORDER.indexOf(name)] = on;
        }

        int p() {
            int p = 0x20;
            for (char name : "NVDIZC".toCharArray()) {
                p += is(name) ? 1 << FLAG_ORDER.indexOf(name) : 0;
            }
            return p;
        }

        void setP(int p) {
            for (char name : "NVDIZC".toCharArray()) {
                set(name, (p >> FLAG_ORDER.indexOf(name)) % 2 == 1);
            }
        }

        int show(int result) {
            int low = Math.floorMod(result, 256);
            set('N', low >= 128);
            set('Z', low == 0);
            return low;
        }

        void push(int b) {
            bytes[0x100 + s] = b;
            s = Math.floorMod(s - 1, 256);
        }

        int pull() {
            s = (s + 1) % 256;
            return bytes[0x100 + s];
        }

        int word(int low12) {
            return bytes[low12] + 256 * bytes[low12 + 1];
        }
    }

    private Core[] cores;
    /** By reader and port; a row's own length stands in LONG. */
    private List<Deque<Integer>> rows;
    private int[] latest;
    private boolean[] unitFlag;
    private boolean resetWanted;
    private static final String UNIT_FLAGS = "QIJMVP";
    private static final int[][] LONG = {{24, 1, 2, 1}, {1, 1, 2, 1}};

    Model() {
        clear();
    }

    void clear() {
        cores = new Core[] {new Core(), new Core()};
        rows = new ArrayList<>();
        for (int i = 0; i < 8; i++) {
            rows.add(new ArrayDeque<>());
        }
        latest = new int[8];
        unitFlag = new boolean[6];
        resetWanted = false;
    }

    private boolean on(char name) {
        return unitFlag[UNIT_FLAGS.indexOf(name)];
    }

    private boolean hasRoom(int reader, int port) {
        int length = port == 3 && !on('V') ? 1 : LONG[reader][port - 1];
        return waits(reader, port) < length;
    }

    int waits(int reader, int port) {
        if (reader < 0 || reader > 1 || port < 1 || port > 4) {
            throw new IndexOutOfBoundsException();
        }
        return rows.get(reader * 4 + port - 1).size();
    }

    int port(int machine, int k) {
        if (machine < 0 || machine > 1 || k < 0 || k > 7) {
            throw new IndexOutOfBoundsException();
        }
        int row = machine * 4 + k / 2;
        if (k % 2 == 1) {
            return rows.get(row).isEmpty() ? latest[row] : rows.get(row).peekFirst();
        }
        int status = waits(machine, k / 2 + 1) > 0 ? 128 : 0;
        status += hasRoom(1 - machine, k / 2 + 1) ? 64 : 0;
        for (int bit = 0; bit < 6; bit++) {
            status += k > 0 || unitFlag[bit] ? 1 << bit : 0;
        }
        return status;
    }

    private int portPlace(int machine, int place) {
        int k = machine == 0 ? place - 0xFEE0 : place - 0xFEF8;
        return k >= 0 && k <= 7 ? k : -1;
    }

    private int get(int machine, int place) {
        int k = portPlace(machine, place);
        if (k < 0) {
            return cores[machine].bytes[place % 4096];
        }
        int answer = port(machine, k);
        if (k % 2 == 1) {
            latest[machine * 4 + k / 2] = answer;
            rows.get(machine * 4 + k / 2).pollFirst();
        }
        return answer;
    }

    private void set(int machine, int place, int b) {
        int k = portPlace(machine, place);
        if (k < 0) {
            cores[machine].bytes[place % 4096] = b;
        } else if (k % 2 == 1) {
            if (hasRoom(1 - machine, k / 2 + 1)) {
                rows.get((1 - machine) * 4 + k / 2).addLast(b);
            }
        } else if (machine == 0 && k == 0) {
            for (int bit = 0; bit < 6; bit++) {
                if ((b >> bit) % 2 == 1) {
                    unitFlag[bit] = b >= 128;
                }
            }
            resetWanted |= on('P');
        }
    }

    private boolean irq(int machine) {
        return machine == 0
                ? on('Q') && waits(0, 4) > 0
                : on('I') && waits(1, 1) > 0 || on('J') && waits(1, 4) > 0;
    }

    private boolean nmi(int machine) {
        return machine == 1 && on('M') && waits(1, 3) >= (on('V') ? 2 : 1);
    }

    void load(int machine, int place, int[] five, int n) {
        if (machine < 0 || machine > 1 || place < 0 || place > 65535) {
            throw new IndexOutOfBoundsException();
        }
        if (n < 1 || n > 20) {
            throw new IllegalArgumentException();
        }
        for (int i = 0; i < n; i++) {
            String eight = String.format("%08X", five[i / 4]);
            cores[machine].bytes[(place + i) % 4096] = hex(eight.substring(i % 4 * 2, i % 4 * 2 + 2));
        }
    }

    int byteAt(int machine, int place) {
        if (machine < 0 || machine > 1 || place < 0 || place > 65535) {
            throw new IndexOutOfBoundsException();
        }
        return cores[machine].bytes[place % 4096];
    }

    void reset(int machine) {
        if (machine < 0 || machine > 1) {
            throw new IndexOutOfBoundsException();
        }
        Core core = cores[machine];
        core.s = 0xFD;
        core.set('I', true);
        core.pc = core.word(0xFFC);
        core.stands = false;
        core.nmiWasOn = nmi(machine);
    }

    int register(int machine, int k) {
        if (machine < 0 || machine > 1 || k < 0 || k > 6) {
            throw new IndexOutOfBoundsException();
        }
        Core core = cores[machine];
        return new int[] {core.a, core.x, core.y, core.s, core.p(), core.pc, standing(machine) ? 1 : 0}[k];
    }

    long steps(int machine) {
        if (machine < 0 || machine > 1) {
            throw new IndexOutOfBoundsException();
        }
        return cores[machine].steps;
    }

    private boolean standing(int machine) {
        boolean willWake = machine == 1 && resetWanted && !on('P');
        return cores[machine].stands && !willWake;
    }

    int run(int n, int ratio) {
        if (n < 0 || n > 4000 || ratio < 0 || ratio > 4) {
            throw new IllegalArgumentException();
        }
        for (int times = 0; times < n; times++) {
            if (standing(0) && standing(1)) {
                return times;
            }
            step(0);
            for (int i = 0; i < ratio; i++) {
                secondStep();
            }
        }
        return n;
    }

    private void secondStep() {
        if (on('P')) {
            return;
        }
        if (resetWanted) {
            resetWanted = false;
            reset(1);
            cores[1].steps++;
        } else {
            step(1);
        }
    }

    private void step(int machine) {
        Core core = cores[machine];
        if (core.stands) {
            return;
        }
        core.steps++;
        boolean before = core.nmiWasOn;
        core.nmiWasOn = nmi(machine);
        if (core.nmiWasOn && !before) {
            interrupt(core, core.pc, core.p(), 0xFFA);
        } else if (irq(machine) && !core.is('I')) {
            interrupt(core, core.pc, core.p(), 0xFFE);
        } else {
            instruction(machine, core);
        }
    }

    private void interrupt(Core core, int back, int status, int vector) {
        core.push(back / 256);
        core.push(back % 256);
        core.push(status);
        core.set('I', true);
        core.pc = core.word(vector);
    }

    private int next(int machine) {
        Core core = cores[machine];
        int b = get(machine, core.pc);
        core.pc = (core.pc + 1) % 65536;
        return b;
    }

    private int nextWord(int machine) {
        int low = next(machine);
        return low + 256 * next(machine);
    }

    private void instruction(int machine, Core core) {
        String[] told = CODES.get(get(machine, core.pc));
        if (told == null) {
            core.stands = true;
            return;
        }
        core.pc = (core.pc + 1) % 65536;
        obey(machine, core, told[0], place(machine, core, told[1]));
    }

    private int place(int machine, Core core, String way) {
        if (way.equals("-")) {
            return -1;
        }
        if (way.equals("#")) {
            int here = core.pc;
            core.pc = (core.pc + 1) % 65536;
            return here;
        }
        if (way.startsWith("a")) {
            int index = way.equals("ax") ? core.x : way.equals("ay") ? core.y : 0;
            return (nextWord(machine) + index) % 65536;
        }
        if (way.equals("(a")) {
            int at = nextWord(machine);
            int low = get(machine, at);
            return low + 256 * get(machine, at % 256 == 255 ? at - 255 : at + 1);
        }
        int index = way.equals("zx") || way.equals("(x") ? core.x : way.equals("zy") ? core.y : 0;
        int zero = (next(machine) + index) % 256;
        if (way.startsWith("z")) {
            return zero;
        }
        int word = core.bytes[zero] + 256 * core.bytes[(zero + 1) % 256];
        return (word + (way.equals(")y") ? core.y : 0)) % 65536;
    }

    private void obey(int machine, Core core, String name, int place) {
        if ("LDA LDX LDY ORA AND EOR ADC SBC CMP CPX CPY BIT".contains(name)) {
            withByte(core, name, get(machine, place));
        } else if (name.startsWith("ST")) {
            set(machine, place, name.equals("STA") ? core.a : name.equals("STX") ? core.x : core.y);
        } else if ("ASL ROL LSR ROR DEC INC".contains(name)) {
            int result = core.show(shifted(core, name, place < 0 ? core.a : get(machine, place)));
            if (place < 0) {
                core.a = result;
            } else {
                set(machine, place, result);
            }
        } else if (BRANCHES.contains(name)) {
            int distance = get(machine, place);
            String test = "BPL!N BMI N BVC!V BVS V BCC!C BCS C BNE!Z BEQ Z";
            int at = test.indexOf(name);
            if (core.is(test.charAt(at + 4)) == (test.charAt(at + 3) == ' ')) {
                core.pc = Math.floorMod(core.pc + (distance > 127 ? distance - 256 : distance), 65536);
            }
        } else if ("JMP JSR RTS RTI BRK".contains(name)) {
            jump(core, name, place);
        } else {
            alone(core, name);
        }
    }

    private void withByte(Core core, String name, int b) {
        switch (name) {
            case "LDA" -> core.a = core.show(b);
            case "LDX" -> core.x = core.show(b);
            case "LDY" -> core.y = core.show(b);
            case "ORA" -> core.a = core.show(core.a | b);
            case "AND" -> core.a = core.show(core.a & b);
            case "EOR" -> core.a = core.show(core.a ^ b);
            case "ADC" -> add(core, b);
            case "SBC" -> add(core, 255 - b);
            case "BIT" -> {
                core.set('Z', (core.a & b) == 0);
                core.set('N', b >= 128);
                core.set('V', b % 128 >= 64);
            }
            default -> {
                int r = name.equals("CMP") ? core.a : name.equals("CPX") ? core.x : core.y;
                core.set('C', r >= b);
                core.show(r - b);
            }
        }
    }

    private static void add(Core core, int b) {
        int sum = core.a + b + (core.is('C') ? 1 : 0);
        int signed = (byte) core.a + (byte) b + (core.is('C') ? 1 : 0);
        core.set('C', sum >= 256);
        core.set('V', signed < -128 || signed > 127);
        core.a = core.show(sum);
    }

    private static int shifted(Core core, String name, int b) {
        int carry = core.is('C') ? 1 : 0;
        switch (name) {
            case "ASL", "ROL" -> {
                core.set('C', b >= 128);
                return b * 2 % 256 + (name.equals("ROL") ? carry : 0);
            }
            case "LSR", "ROR" -> {
                core.set('C', b % 2 == 1);
                return b / 2 + (name.equals("ROR") ? carry * 128 : 0);
            }
            default -> {
                return name.equals("INC") ? b + 1 : b - 1;
            }
        }
    }

    private static void jump(Core core, String name, int place) {
        switch (name) {
            case "JMP" -> core.pc = place;
            case "JSR" -> {
                int back = Math.floorMod(core.pc - 1, 65536);
                core.push(back / 256);
                core.push(back % 256);
                core.pc = place;
            }
            case "RTS" -> {
                int low = core.pull();
                core.pc = (low + 256 * core.pull() + 1) % 65536;
            }
            case "RTI" -> {
                core.setP(core.pull());
                int low = core.pull();
                core.pc = low + 256 * core.pull();
            }
            default -> {
                int back = (core.pc + 1) % 65536;
                core.push(back / 256);
                core.push(back % 256);
                core.push(core.p() + 16);
                core.set('I', true);
                core.pc = core.word(0xFFE);
            }
        }
    }

    private static void alone(Core core, String name) {
        switch (name) {
            case "TAX" -> core.x = core.show(core.a);
            case "TAY" -> core.y = core.show(core.a);
            case "TXA" -> core.a = core.show(core.x);
            case "TYA" -> core.a = core.show(core.y);
            case "TSX" -> core.x = core.show(core.s);
            case "TXS" -> core.s = core.x;
            case "INX" -> core.x = core.show(core.x + 1);
            case "INY" -> core.y = core.show(core.y + 1);
            case "DEX" -> core.x = core.show(core.x - 1);
            case "DEY" -> core.y = core.show(core.y - 1);
            case "PHA" -> core.push(core.a);
            case "PLA" -> core.a = core.show(core.pull());
            case "PHP" -> core.push(core.p() + 16);
            case "PLP" -> core.setP(core.pull());
            case "NOP" -> { }
            default -> core.set(name.charAt(2), name.startsWith("SE"));
        }
    }
}
