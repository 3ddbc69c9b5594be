/** ADC, SBC and the comparisons with every pair of bytes, and the changes of every byte. */
final class ArithmeticTest {
    private static final int N = 0x80;
    private static final int V = 0x40;
    private static final int D = 0x08;
    private static final int I = 0x04;
    private static final int Z = 0x02;
    private static final int C = 0x01;
    private static final int BIT_5 = 0x20;
    private static final int MOST_TRIALS = 60;
    private static final Check CHECK = new Check();

    private static Bench bench;
    private static int trials = MOST_TRIALS;

    public static void main(String[] args) {
        for (int a = 0; a < 256; a++) {
            for (int b = 0; b < 256; b++) {
                for (int carry = 0; carry < 2; carry++) {
                    sums(a, b, carry);
                }
                comparisons(a, b);
                bits(a, b);
            }
            for (int carry = 0; carry < 2; carry++) {
                changes(a, carry);
            }
        }
        CHECK.end();
    }

    /**
     * One register has the value, the others have it with all bits turned, so that
     * none of them can stand for another; the answer is A and P, once the code was obeyed.
     */
    private static int obeyed(String code, int register, int value, int p) {
        if (trials == MOST_TRIALS) {
            bench = new Bench();
            trials = 0;
        }
        trials++;
        int[] registers = {value ^ 255, value ^ 255, value ^ 255};
        registers[register] = value;
        bench.put(0, 0x300, code).state(registers[Bench.A], registers[Bench.X], registers[Bench.Y], 0xFD, p).first(1);
        return bench.cores.register(0, Bench.A) << 8 | bench.cores.register(0, Bench.P);
    }

    private static int obeyed(String code, int a, int p) {
        return obeyed(code, Bench.A, a, p);
    }

    private static String code(int code, int b) {
        return String.format("%02X %02X", code, b);
    }

    private static int shown(int value) {
        return BIT_5 | (value >= 128 ? N : 0) | (value == 0 ? Z : 0);
    }

    private static boolean beyond(int signed) {
        return signed < -128 || signed > 127;
    }

    /** D is on for half of them, and does nothing; V begins as what must not come out. */
    private static void sums(int a, int b, int carry) {
        int d = (a + b) % 2 == 0 ? D : 0;
        int sum = a + b + carry;
        int v = beyond((byte) a + (byte) b + carry) ? V : 0;
        int due = sum % 256 << 8 | shown(sum % 256) | (sum > 255 ? C : 0) | v | d;
        CHECK.same("ADC of " + a + ", " + b + ", " + carry, obeyed(code(0x69, b), a, carry | d | V ^ v), due);
        int less = a - b - 1 + carry;
        v = beyond((byte) a - (byte) b - 1 + carry) ? V : 0;
        due = (less & 255) << 8 | shown(less & 255) | (less >= 0 ? C : 0) | v | d;
        CHECK.same("SBC of " + a + ", " + b + ", " + carry, obeyed(code(0xE9, b), a, carry | d | V ^ v), due);
    }

    private static void comparisons(int r, int b) {
        int v = b % 2 == 0 ? V : 0;
        int c = r >= b ? C : 0;
        int flags = shown(r - b & 255) | c | v | I;
        int before = c ^ C | v | I;
        CHECK.same("CMP of " + r + ", " + b, obeyed(code(0xC9, b), Bench.A, r, before), r << 8 | flags);
        CHECK.same("CPX of " + r + ", " + b, obeyed(code(0xE0, b), Bench.X, r, before), (r ^ 255) << 8 | flags);
        CHECK.same("CPY of " + r + ", " + b, obeyed(code(0xC0, b), Bench.Y, r, before), (r ^ 255) << 8 | flags);
    }

    private static void bits(int a, int b) {
        int due = a << 8 | BIT_5 | b & (N | V) | ((a & b) == 0 ? Z : 0) | a % 2;
        int before = ~b & (N | V) | ((a & b) == 0 ? 0 : Z) | a % 2;
        String bitOfByteBehind = String.format("2C 03 03 %02X", b);
        CHECK.same("BIT of " + a + ", " + b, obeyed(bitOfByteBehind, a, before), due);
    }

    private static void changes(int a, int carry) {
        int left = a * 2 % 256;
        change("ASL", "0A", a, carry, left, a / 128);
        change("ROL", "2A", a, carry, left + carry, a / 128);
        change("LSR", "4A", a, carry, a / 2, a % 2);
        change("ROR", "6A", a, carry, a / 2 + 128 * carry, a % 2);
    }

    private static void change(String name, String code, int a, int carry, int result, int carryAfter) {
        int others = V | D | I;
        CHECK.same(name + " of " + a + ", " + carry, obeyed(code, a, others | carry),
                result << 8 | shown(result) | carryAfter | others);
    }
}
