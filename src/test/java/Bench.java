/** A new object of TwinCores with ways to put code into it by hexadecimal text. */
final class Bench {
    static final int A = 0;
    static final int X = 1;
    static final int Y = 2;
    static final int S = 3;
    static final int P = 4;
    static final int PC = 5;
    static final int STANDS = 6;

    /** The flags that machine 0 writes, and the bit that makes them 1. */
    static final int FLAG_Q = 0x01;
    static final int FLAG_I = 0x02;
    static final int FLAG_J = 0x04;
    static final int FLAG_M = 0x08;
    static final int FLAG_V = 0x10;
    static final int FLAG_P = 0x20;
    static final int SET = 0x80;

    final TwinCores cores = new TwinCores();

    /** Where a machine has its port's place k. */
    static int portPlace(int machine, int k) {
        return (machine == 0 ? 0xFEE0 : 0xFEF8) + k;
    }

    static int[] bytesOf(String hex) {
        String digits = hex.replace(" ", "");
        int[] bytes = new int[digits.length() / 2];
        for (int i = 0; i < bytes.length; i++) {
            bytes[i] = Integer.parseInt(digits.substring(2 * i, 2 * i + 2), 16);
        }
        return bytes;
    }

    /** Puts any number of bytes into a machine's memory. */
    Bench put(int machine, int place, String hex) {
        int[] bytes = bytesOf(hex);
        for (int from = 0; from < bytes.length; from += 20) {
            int n = Math.min(20, bytes.length - from);
            int[] five = new int[5];
            for (int i = 0; i < n; i++) {
                five[i / 4] |= bytes[from + i] << 24 - 8 * (i % 4);
            }
            cores.load(machine, place + from, five[0], five[1], five[2], five[3], five[4], n);
        }
        return this;
    }

    /** Puts code at a place, which RESET goes to from now on, and resets the machine. */
    Bench start(int machine, int place, String hex) {
        put(machine, place, hex);
        vector(machine, 0xFFFC, place);
        cores.reset(machine);
        return this;
    }

    Bench vector(int machine, int at, int place) {
        return put(machine, at, String.format("%02X%02X", place & 0xFF, place >> 8));
    }

    /** Steps of machine 0 alone. */
    Bench first(int steps) {
        cores.run(steps, 0);
        return this;
    }

    /**
     * Steps of machine 1 alone: machine 0 is set on a jump to itself for so long,
     * at $F00, and reset there.
     */
    Bench second(int steps) {
        start(0, 0xF00, "4C 00 0F");
        for (int left = steps; left > 0; left -= 4) {
            cores.run(1, Math.min(4, left));
        }
        return this;
    }

    /** Machine 0 writes a byte at a place: two steps of it, none of machine 1. */
    Bench firstWrites(int place, int value) {
        start(0, 0xF10, String.format("A9 %02X 8D %02X %02X", value, place & 0xFF, place >> 8));
        return first(2);
    }

    /** Machine 0 reads a place, and what it read is the answer. */
    int firstReads(int place) {
        start(0, 0xF20, String.format("AD %02X %02X", place & 0xFF, place >> 8));
        first(1);
        return cores.register(0, A);
    }

    /** Machine 1 writes a byte at a place, in two steps; it is reset for it. */
    Bench secondWrites(int place, int value) {
        start(1, 0xF10, String.format("A9 %02X 8D %02X %02X", value, place & 0xFF, place >> 8));
        return second(2);
    }

    int secondReads(int place) {
        start(1, 0xF20, String.format("AD %02X %02X", place & 0xFF, place >> 8));
        second(1);
        return cores.register(1, A);
    }

    /** Machine 0 writes the flags at its place 0: to set them, with SET. */
    Bench flags(int value) {
        return firstWrites(0xFEE0, value);
    }

    Bench go(int machine, int steps) {
        return machine == 0 ? first(steps) : second(steps);
    }

    Bench writes(int machine, int place, int value) {
        return machine == 0 ? firstWrites(place, value) : secondWrites(place, value);
    }

    int reads(int machine, int place) {
        return machine == 0 ? firstReads(place) : secondReads(place);
    }

    /** Machine 0 comes to $300 with these registers; what is at $100 and S is lost. */
    Bench state(int a, int x, int y, int s, int p) {
        return stateAt(0, 0x300, a, x, y, s, p);
    }

    /** A machine comes to a place with these registers; what is at $100 and S is lost. */
    Bench stateAt(int machine, int place, int a, int x, int y, int s, int p) {
        start(machine, 0xE00, String.format("A2 %02X 9A A9 %02X 48 A2 %02X A0 %02X A9 %02X 28 4C %02X %02X",
                s, p, x, y, a, place & 0xFF, place >> 8));
        return go(machine, 9);
    }
}
