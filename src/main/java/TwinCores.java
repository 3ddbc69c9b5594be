import java.util.Arrays;

/**
 * Two machines of bytes with a unit of ports between them, as ../shared/DOC.md
 * tells. Machine 0 is the first, machine 1 the second.
 */
public final class TwinCores {
    public static final int NONE = -1;

    private static final int HIGHEST_PLACE = 0xFFFF;
    private static final int MOST_BYTES = 20;
    private static final int MOST_TIMES = 4000;
    private static final int MOST_RATIO = 4;
    private static final int REGISTERS = 7;
    private static final int PORTS = 4;

    private final Unit unit;
    private final Machine first;
    private final Machine second;

    public TwinCores() {
        unit = new Unit();
        first = new Machine(0, unit);
        second = new Machine(1, unit);
    }

    public void load(int machine, int place, int a, int b, int c, int d, int e, int n)
            throws IndexOutOfBoundsException, IllegalArgumentException {
        refuseUnless(machine >= 0 && machine <= 1);
        refuseUnless(place >= 0 && place <= HIGHEST_PLACE);
        if (n < 1 || n > MOST_BYTES) {
            throw new IllegalArgumentException("n is not 1 .. 20");
        }
        Machine target = machineOf(machine);
        target.keep(place, a, n);
        target.keep(place + 4, b, n - 4);
        target.keep(place + 8, c, n - 8);
        target.keep(place + 12, d, n - 12);
        target.keep(place + 16, e, n - 16);
    }

    public int byteAt(int machine, int place) throws IndexOutOfBoundsException {
        refuseUnless(machine >= 0 && machine <= 1);
        refuseUnless(place >= 0 && place <= HIGHEST_PLACE);
        return machineOf(machine).kept(place);
    }

    public void reset(int machine) throws IndexOutOfBoundsException {
        refuseUnless(machine >= 0 && machine <= 1);
        machineOf(machine).restart();
    }

    public int run(int n, int ratio) throws IllegalArgumentException {
        if (n < 0 || n > MOST_TIMES || ratio < 0 || ratio > MOST_RATIO) {
            throw new IllegalArgumentException("n is not 0 .. 4000, or ratio not 0 .. 4");
        }
        int times = 0;
        while (times < n && !(first.countsAsStanding() && second.countsAsStanding())) {
            first.step();
            for (int i = 0; i < ratio; i++) {
                second.step();
            }
            times++;
        }
        return times;
    }

    public int register(int machine, int k) throws IndexOutOfBoundsException {
        refuseUnless(machine >= 0 && machine <= 1);
        refuseUnless(k >= 0 && k < REGISTERS);
        return machineOf(machine).valueOf(k);
    }

    public int port(int machine, int k) throws IndexOutOfBoundsException {
        refuseUnless(machine >= 0 && machine <= 1);
        refuseUnless(k >= 0 && k < 2 * PORTS);
        return unit.look(machine, k);
    }

    public int waits(int machine, int port) throws IndexOutOfBoundsException {
        refuseUnless(machine >= 0 && machine <= 1);
        refuseUnless(port >= 1 && port <= PORTS);
        return unit.waiting(machine, port);
    }

    public long steps(int machine) throws IndexOutOfBoundsException {
        refuseUnless(machine >= 0 && machine <= 1);
        return machineOf(machine).stepsDone();
    }

    public void clear() {
        unit.forget();
        first.forget();
        second.forget();
    }

    private Machine machineOf(int machine) {
        return machine == 0 ? first : second;
    }

    private static void refuseUnless(boolean there) {
        if (!there) {
            throw new IndexOutOfBoundsException("no such machine, place, register or port");
        }
    }

    /** One machine: its registers, its memory and its way to the unit. */
    private static final class Machine {
        private static final int FLAG_N = 0x80;
        private static final int FLAG_V = 0x40;
        private static final int BIT_5 = 0x20;
        private static final int BIT_4 = 0x10;
        private static final int FLAG_D = 0x08;
        private static final int FLAG_I = 0x04;
        private static final int FLAG_Z = 0x02;
        private static final int FLAG_C = 0x01;

        private static final int BYTE = 0xFF;
        private static final int WORD = 0xFFFF;
        private static final int MEMORY_SIZE = 0x1000;
        private static final int MEMORY_MASK = 0x0FFF;
        private static final int PORTS_OF_FIRST = 0xFEE0;
        private static final int PORTS_OF_SECOND = 0xFEF8;
        private static final int PORT_PLACES = 8;
        private static final int STACK = 0x100;
        private static final int STACK_AT_RESET = 0xFD;
        private static final int NMI_WORD = 0xFFFA;
        private static final int RESET_WORD = 0xFFFC;
        private static final int IRQ_WORD = 0xFFFE;

        private final int number;
        private final Unit unit;
        private final int firstPort;
        private final int[] memory;
        private int a;
        private int x;
        private int y;
        private int s;
        private int p;
        private int pc;
        private boolean stands;
        private boolean nmiBefore;
        private long done;

        Machine(int number, Unit unit) {
            this.number = number;
            this.unit = unit;
            firstPort = number == 0 ? PORTS_OF_FIRST : PORTS_OF_SECOND;
            memory = new int[MEMORY_SIZE];
            p = BIT_5;
            stands = true;
        }

        void forget() {
            Arrays.fill(memory, 0);
            a = 0;
            x = 0;
            y = 0;
            s = 0;
            p = BIT_5;
            pc = 0;
            stands = true;
            nmiBefore = false;
            done = 0;
        }

        /** Keeps up to four bytes of a number in memory, the highest first. */
        void keep(int place, int four, int bytes) {
            for (int i = 0; i < 4 && i < bytes; i++) {
                memory[place + i & MEMORY_MASK] = four >>> 24 - 8 * i & BYTE;
            }
        }

        int kept(int place) {
            return memory[place & MEMORY_MASK];
        }

        private int keptWord(int place) {
            return kept(place + 1) << 8 | kept(place);
        }

        int valueOf(int k) {
            switch (k) {
                case 0: return a;
                case 1: return x;
                case 2: return y;
                case 3: return s;
                case 4: return p;
                case 5: return pc;
                default: return countsAsStanding() ? 1 : 0;
            }
        }

        long stepsDone() {
            return done;
        }

        /** A RESET that is due will wake the machine, so it does not count as standing. */
        boolean countsAsStanding() {
            return stands && !unit.resetComes(number);
        }

        void restart() {
            s = STACK_AT_RESET;
            p |= FLAG_I;
            pc = keptWord(RESET_WORD);
            stands = false;
            nmiBefore = unit.nmi(number);
        }

        /** One step, if there is one to do: a RESET that is due, a break or an instruction. */
        void step() {
            if (unit.resetComes(number)) {
                unit.endReset();
                restart();
                done++;
            } else if (!stands && !unit.holds(number)) {
                if (!breaksIn()) {
                    instruction();
                }
                done++;
            }
        }

        private boolean breaksIn() {
            boolean nmi = unit.nmi(number);
            boolean cameOn = nmi && !nmiBefore;
            nmiBefore = nmi;
            if (cameOn) {
                breakTo(NMI_WORD, pc, p);
                return true;
            }
            if ((p & FLAG_I) == 0 && unit.irq(number)) {
                breakTo(IRQ_WORD, pc, p);
                return true;
            }
            return false;
        }

        private void breakTo(int vector, int back, int status) {
            pushWord(back);
            push(status);
            p |= FLAG_I;
            pc = keptWord(vector);
        }

        private void instruction() {
            int code = read(pc) & BYTE;
            int kind = Codes.KINDS[code];
            if (kind == Codes.NON) {
                stands = true;
                return;
            }
            pc = pc + 1 & WORD;
            int place = placeOf(Codes.WAYS[code]);
            switch (kind >> 4) {
                case Codes.USES: use(kind, read(place)); break;
                case Codes.STORES: store(kind, place); break;
                case Codes.CHANGES: change(kind, place); break;
                case Codes.MOVES: move(kind); break;
                case Codes.FLAGS: changeFlag(kind); break;
                case Codes.STACKS: useStack(kind); break;
                case Codes.JUMPS: jump(kind, place); break;
                default: branch(kind, read(place)); break;
            }
        }

        /** The place that a way tells; PC goes behind the bytes of the instruction. */
        private int placeOf(int way) {
            switch (way) {
                case Codes.NO: return NONE;
                case Codes.NX: return placeBehind();
                case Codes.Z: return byteBehind();
                case Codes.ZX: return byteBehind() + x & BYTE;
                case Codes.ZY: return byteBehind() + y & BYTE;
                case Codes.IX: return wordAt(byteBehind() + x & BYTE);
                case Codes.IY: return wordAt(byteBehind()) + y & WORD;
                case Codes.AX: return wordBehind() + x & WORD;
                case Codes.AY: return wordBehind() + y & WORD;
                case Codes.IA: return wordAt(wordBehind());
                default: return wordBehind();
            }
        }

        private int placeBehind() {
            int place = pc;
            pc = pc + 1 & WORD;
            return place;
        }

        private int byteBehind() {
            return read(placeBehind());
        }

        private int wordBehind() {
            int low = read(placeBehind());
            return read(placeBehind()) << 8 | low;
        }

        /** The higher byte comes from the same page, in page 0 as behind 6C. */
        private int wordAt(int place) {
            int low = read(place);
            return read(place & 0xFF00 | place + 1 & BYTE) << 8 | low;
        }

        private void use(int kind, int value) {
            switch (kind) {
                case Codes.LDA: a = shown(value); break;
                case Codes.LDX: x = shown(value); break;
                case Codes.LDY: y = shown(value); break;
                case Codes.ORA: a = shown(a | value); break;
                case Codes.AND: a = shown(a & value); break;
                case Codes.EOR: a = shown(a ^ value); break;
                case Codes.ADC: add(value); break;
                case Codes.SBC: add(value ^ BYTE); break;
                case Codes.CMP: compare(a, value); break;
                case Codes.CPX: compare(x, value); break;
                case Codes.CPY: compare(y, value); break;
                default: testBits(value); break;
            }
        }

        private void store(int kind, int place) {
            switch (kind) {
                case Codes.STA: write(place, a); break;
                case Codes.STX: write(place, x); break;
                default: write(place, y); break;
            }
        }

        private void add(int value) {
            int sum = a + value + (p & FLAG_C);
            setFlag(FLAG_C, sum > BYTE);
            setFlag(FLAG_V, ((a ^ sum) & (value ^ sum) & FLAG_N) != 0);
            a = shown(sum & BYTE);
        }

        private void compare(int register, int value) {
            setFlag(FLAG_C, register >= value);
            shown(register - value & BYTE);
        }

        private void testBits(int value) {
            setFlag(FLAG_Z, (a & value) == 0);
            setFlag(FLAG_N, (value & FLAG_N) != 0);
            setFlag(FLAG_V, (value & FLAG_V) != 0);
        }

        /** Without a place it is A itself that changes. */
        private void change(int kind, int place) {
            int before = place == NONE ? a : read(place);
            int after = shown(changed(kind, before));
            if (place == NONE) {
                a = after;
            } else {
                write(place, after);
            }
        }

        private int changed(int kind, int value) {
            int carry = p & FLAG_C;
            switch (kind) {
                case Codes.ASL:
                    setFlag(FLAG_C, value > 0x7F);
                    return value << 1 & BYTE;
                case Codes.ROL:
                    setFlag(FLAG_C, value > 0x7F);
                    return (value << 1 | carry) & BYTE;
                case Codes.LSR:
                    setFlag(FLAG_C, (value & 1) != 0);
                    return value >> 1;
                case Codes.ROR:
                    setFlag(FLAG_C, (value & 1) != 0);
                    return value >> 1 | carry << 7;
                case Codes.DEC:
                    return value - 1 & BYTE;
                default:
                    return value + 1 & BYTE;
            }
        }

        private void move(int kind) {
            switch (kind) {
                case Codes.TAX: x = shown(a); break;
                case Codes.TAY: y = shown(a); break;
                case Codes.TXA: a = shown(x); break;
                case Codes.TYA: a = shown(y); break;
                case Codes.TSX: x = shown(s); break;
                case Codes.TXS: s = x; break;
                case Codes.INX: x = shown(x + 1 & BYTE); break;
                case Codes.INY: y = shown(y + 1 & BYTE); break;
                case Codes.DEX: x = shown(x - 1 & BYTE); break;
                case Codes.DEY: y = shown(y - 1 & BYTE); break;
                default: break;
            }
        }

        private void changeFlag(int kind) {
            switch (kind) {
                case Codes.CLC: setFlag(FLAG_C, false); break;
                case Codes.SEC: setFlag(FLAG_C, true); break;
                case Codes.CLI: setFlag(FLAG_I, false); break;
                case Codes.SEI: setFlag(FLAG_I, true); break;
                case Codes.CLV: setFlag(FLAG_V, false); break;
                case Codes.CLD: setFlag(FLAG_D, false); break;
                default: setFlag(FLAG_D, true); break;
            }
        }

        private void useStack(int kind) {
            switch (kind) {
                case Codes.PHA: push(a); break;
                case Codes.PLA: a = shown(pull()); break;
                case Codes.PHP: push(p | BIT_4); break;
                default: pullStatus(); break;
            }
        }

        private void jump(int kind, int place) {
            switch (kind) {
                case Codes.JMP:
                    pc = place;
                    break;
                case Codes.JSR:
                    pushWord(pc - 1);
                    pc = place;
                    break;
                case Codes.RTS:
                    pc = pullWord() + 1 & WORD;
                    break;
                case Codes.RTI:
                    pullStatus();
                    pc = pullWord();
                    break;
                default:
                    breakTo(IRQ_WORD, pc + 1, p | BIT_4);
                    break;
            }
        }

        private void branch(int kind, int distance) {
            if (goes(kind)) {
                pc = pc + (byte) distance & WORD;
            }
        }

        private boolean goes(int kind) {
            switch (kind) {
                case Codes.BPL: return (p & FLAG_N) == 0;
                case Codes.BMI: return (p & FLAG_N) != 0;
                case Codes.BVC: return (p & FLAG_V) == 0;
                case Codes.BVS: return (p & FLAG_V) != 0;
                case Codes.BCC: return (p & FLAG_C) == 0;
                case Codes.BCS: return (p & FLAG_C) != 0;
                case Codes.BNE: return (p & FLAG_Z) == 0;
                default: return (p & FLAG_Z) != 0;
            }
        }

        /** Sets N and Z by a byte, and answers it. */
        private int shown(int value) {
            int others = p & ~(FLAG_N | FLAG_Z);
            p = others | value & FLAG_N | (value == 0 ? FLAG_Z : 0);
            return value;
        }

        private void setFlag(int flag, boolean on) {
            p = on ? p | flag : p & ~flag;
        }

        /* No port is in the stack's page, so its bytes are memory's. */
        private void push(int value) {
            memory[STACK + s & MEMORY_MASK] = value & BYTE;
            s = s - 1 & BYTE;
        }

        private void pushWord(int word) {
            push(word >> 8);
            push(word);
        }

        private int pull() {
            s = s + 1 & BYTE;
            return kept(STACK + s);
        }

        private int pullWord() {
            int low = pull();
            return pull() << 8 | low;
        }

        private void pullStatus() {
            p = pull() & ~BIT_4 | BIT_5;
        }

        private int read(int place) {
            int k = place - firstPort;
            if (k < 0 || k >= PORT_PLACES) {
                return kept(place);
            }
            return (k & 1) == 0 ? unit.status(number, k >> 1) : unit.rowFor(number, k >> 1).take();
        }

        private void write(int place, int value) {
            int k = place - firstPort;
            if (k < 0 || k >= PORT_PLACES) {
                memory[place & MEMORY_MASK] = value;
            } else if ((k & 1) != 0) {
                unit.rowFor(1 - number, k >> 1).put(value);
            } else if (number == 0 && k == 0) {
                unit.writeFlags(value);
            }
        }
    }

    /** What each code does, and where its byte is: a kind and a way for each of 256. */
    private static final class Codes {
        /* The ways: nothing, # (and branches), z, zx, zy, a, ax, ay, (x, )y, the word at a. */
        private static final int NO = 0;
        private static final int NX = 1;
        private static final int Z = 2;
        private static final int ZX = 3;
        private static final int ZY = 4;
        private static final int A = 5;
        private static final int AX = 6;
        private static final int AY = 7;
        private static final int IX = 8;
        private static final int IY = 9;
        private static final int IA = 10;

        /* The groups: a kind's number divided by 16 is its group. */
        private static final int USES = 1;
        private static final int STORES = 2;
        private static final int CHANGES = 3;
        private static final int MOVES = 4;
        private static final int FLAGS = 5;
        private static final int STACKS = 6;
        private static final int JUMPS = 7;

        private static final int NON = 0x00;
        private static final int LDA = 0x10, LDX = 0x11, LDY = 0x12, ORA = 0x13;
        private static final int AND = 0x14, EOR = 0x15, ADC = 0x16, SBC = 0x17;
        private static final int CMP = 0x18, CPX = 0x19, CPY = 0x1A, BIT = 0x1B;
        private static final int STA = 0x20, STX = 0x21, STY = 0x22;
        private static final int ASL = 0x30, ROL = 0x31, LSR = 0x32, ROR = 0x33;
        private static final int DEC = 0x34, INC = 0x35;
        private static final int TAX = 0x40, TAY = 0x41, TXA = 0x42, TYA = 0x43;
        private static final int TSX = 0x44, TXS = 0x45, INX = 0x46, INY = 0x47;
        private static final int DEX = 0x48, DEY = 0x49, NOP = 0x4A;
        private static final int CLC = 0x50, SEC = 0x51, CLI = 0x52, SEI = 0x53;
        private static final int CLV = 0x54, CLD = 0x55, SED = 0x56;
        private static final int PHA = 0x60, PLA = 0x61, PHP = 0x62, PLP = 0x63;
        private static final int JMP = 0x70, JSR = 0x71, RTS = 0x72, RTI = 0x73, BRK = 0x74;
        private static final int BPL = 0x80, BMI = 0x81, BVC = 0x82, BVS = 0x83;
        private static final int BCC = 0x84, BCS = 0x85, BNE = 0x86, BEQ = 0x87;

        private static final int[] KINDS = {
            BRK, ORA, NON, NON, NON, ORA, ASL, NON, PHP, ORA, ASL, NON, NON, ORA, ASL, NON,
            BPL, ORA, NON, NON, NON, ORA, ASL, NON, CLC, ORA, NON, NON, NON, ORA, ASL, NON,
            JSR, AND, NON, NON, BIT, AND, ROL, NON, PLP, AND, ROL, NON, BIT, AND, ROL, NON,
            BMI, AND, NON, NON, NON, AND, ROL, NON, SEC, AND, NON, NON, NON, AND, ROL, NON,
            RTI, EOR, NON, NON, NON, EOR, LSR, NON, PHA, EOR, LSR, NON, JMP, EOR, LSR, NON,
            BVC, EOR, NON, NON, NON, EOR, LSR, NON, CLI, EOR, NON, NON, NON, EOR, LSR, NON,
            RTS, ADC, NON, NON, NON, ADC, ROR, NON, PLA, ADC, ROR, NON, JMP, ADC, ROR, NON,
            BVS, ADC, NON, NON, NON, ADC, ROR, NON, SEI, ADC, NON, NON, NON, ADC, ROR, NON,
            NON, STA, NON, NON, STY, STA, STX, NON, DEY, NON, TXA, NON, STY, STA, STX, NON,
            BCC, STA, NON, NON, STY, STA, STX, NON, TYA, STA, TXS, NON, NON, STA, NON, NON,
            LDY, LDA, LDX, NON, LDY, LDA, LDX, NON, TAY, LDA, TAX, NON, LDY, LDA, LDX, NON,
            BCS, LDA, NON, NON, LDY, LDA, LDX, NON, CLV, LDA, TSX, NON, LDY, LDA, LDX, NON,
            CPY, CMP, NON, NON, CPY, CMP, DEC, NON, INY, CMP, DEX, NON, CPY, CMP, DEC, NON,
            BNE, CMP, NON, NON, NON, CMP, DEC, NON, CLD, CMP, NON, NON, NON, CMP, DEC, NON,
            CPX, SBC, NON, NON, CPX, SBC, INC, NON, INX, SBC, NOP, NON, CPX, SBC, INC, NON,
            BEQ, SBC, NON, NON, NON, SBC, INC, NON, SED, SBC, NON, NON, NON, SBC, INC, NON,
        };

        private static final int[] WAYS = {
            NO, IX, NO, NO, NO, Z,  Z,  NO, NO, NX, NO, NO, NO, A,  A,  NO,
            NX, IY, NO, NO, NO, ZX, ZX, NO, NO, AY, NO, NO, NO, AX, AX, NO,
            A,  IX, NO, NO, Z,  Z,  Z,  NO, NO, NX, NO, NO, A,  A,  A,  NO,
            NX, IY, NO, NO, NO, ZX, ZX, NO, NO, AY, NO, NO, NO, AX, AX, NO,
            NO, IX, NO, NO, NO, Z,  Z,  NO, NO, NX, NO, NO, A,  A,  A,  NO,
            NX, IY, NO, NO, NO, ZX, ZX, NO, NO, AY, NO, NO, NO, AX, AX, NO,
            NO, IX, NO, NO, NO, Z,  Z,  NO, NO, NX, NO, NO, IA, A,  A,  NO,
            NX, IY, NO, NO, NO, ZX, ZX, NO, NO, AY, NO, NO, NO, AX, AX, NO,
            NO, IX, NO, NO, Z,  Z,  Z,  NO, NO, NO, NO, NO, A,  A,  A,  NO,
            NX, IY, NO, NO, ZX, ZX, ZY, NO, NO, AY, NO, NO, NO, AX, NO, NO,
            NX, IX, NX, NO, Z,  Z,  Z,  NO, NO, NX, NO, NO, A,  A,  A,  NO,
            NX, IY, NO, NO, ZX, ZX, ZY, NO, NO, AY, NO, NO, AX, AX, AY, NO,
            NX, IX, NO, NO, Z,  Z,  Z,  NO, NO, NX, NO, NO, A,  A,  A,  NO,
            NX, IY, NO, NO, NO, ZX, ZX, NO, NO, AY, NO, NO, NO, AX, AX, NO,
            NX, IX, NO, NO, Z,  Z,  Z,  NO, NO, NX, NO, NO, A,  A,  A,  NO,
            NX, IY, NO, NO, NO, ZX, ZX, NO, NO, AY, NO, NO, NO, AX, AX, NO,
        };

        private Codes() {
        }
    }

    /** The rows of bytes that wait between the machines, the flags and the lines. */
    private static final class Unit {
        private static final int Q = 0x01;
        private static final int I = 0x02;
        private static final int J = 0x04;
        private static final int M = 0x08;
        private static final int V = 0x10;
        private static final int P = 0x20;
        private static final int ALL_FLAGS = 0x3F;
        private static final int BYTE_WAITS = 0x80;
        private static final int HAS_ROOM = 0x40;
        private static final int SET = 0x80;
        /* By the machine that reads, then by port: first what waits for machine 0. */
        private static final int[] LENGTHS = {24, 1, 2, 1, 1, 1, 2, 1};
        private static final int THIRD = 2;

        private final Row[] rows;
        private int flags;
        private boolean resetDue;

        Unit() {
            rows = new Row[2 * PORTS];
            for (int i = 0; i < 2 * PORTS; i++) {
                rows[i] = new Row(LENGTHS[i], i % PORTS == THIRD ? 1 : LENGTHS[i]);
            }
        }

        void forget() {
            for (int i = 0; i < 2 * PORTS; i++) {
                rows[i].forget();
            }
            // Without the bit that sets, this turns every flag off.
            writeFlags(ALL_FLAGS);
            resetDue = false;
        }

        int look(int machine, int k) {
            return (k & 1) == 0 ? status(machine, k >> 1) : rowFor(machine, k >> 1).next();
        }

        int status(int machine, int line) {
            int slot = (machine & 1) * PORTS + (line & PORTS - 1);
            Row incoming = rows[slot];
            Row outgoing = rows[slot ^ PORTS];
            return (incoming.count > 0 ? BYTE_WAITS : 0)
                    | (outgoing.count < outgoing.limit ? HAS_ROOM : 0)
                    | (line == 0 ? flags : ALL_FLAGS);
        }

        /** The row of what waits for a machine at a line, which is its port less 1. */
        Row rowFor(int machine, int line) {
            return rows[(machine & 1) * PORTS + (line & PORTS - 1)];
        }

        int waiting(int machine, int port) {
            return rowFor(machine, port - 1).count;
        }

        boolean irq(int machine) {
            if (machine == 0) {
                return isOn(Q) && waiting(0, 4) > 0;
            }
            return isOn(I) && waiting(1, 1) > 0 || isOn(J) && waiting(1, 4) > 0;
        }

        boolean nmi(int machine) {
            return machine == 1 && isOn(M) && waiting(1, 3) >= (isOn(V) ? 2 : 1);
        }

        boolean holds(int machine) {
            return machine == 1 && isOn(P);
        }

        boolean resetComes(int machine) {
            return machine == 1 && resetDue && !isOn(P);
        }

        void endReset() {
            resetDue = false;
        }

        void writeFlags(int value) {
            int named = value & ALL_FLAGS;
            flags = (value & SET) != 0 ? flags | named : flags & ~named;
            resetDue = resetDue || isOn(P);
            int limit = isOn(V) ? 2 : 1;
            rowFor(0, THIRD).limit = limit;
            rowFor(1, THIRD).limit = limit;
        }

        private boolean isOn(int flag) {
            return (flags & flag) != 0;
        }
    }

    /** A row of bytes that wait, and the byte that went the latest. */
    private static final class Row {
        private final int[] bytes;
        private int limit;
        private int count;
        private int head;
        private int latest;

        Row(int length, int limit) {
            bytes = new int[length];
            this.limit = limit;
        }

        void forget() {
            count = 0;
            head = 0;
            latest = 0;
        }

        int next() {
            return count > 0 ? bytes[head] : latest;
        }

        int take() {
            if (count > 0) {
                latest = bytes[head];
                head = head + 1 < bytes.length ? head + 1 : 0;
                count--;
            }
            return latest;
        }

        void put(int value) {
            if (count < limit) {
                int end = head + count;
                bytes[end < bytes.length ? end : end - bytes.length] = value;
                count++;
            }
        }
    }
}
