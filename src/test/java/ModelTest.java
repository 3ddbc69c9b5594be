import java.util.ArrayList;
import java.util.List;
import java.util.Random;

/** Runs of made-up calls on TwinCores and on Model: every answer must be the same. */
final class ModelTest {
    private static final int RUNS = 3000;
    private static final int CALLS = 512;

    private final Check check = new Check();
    private final List<Integer> codes = new ArrayList<>(Model.CODES.keySet());
    private Random random;
    private TwinCores cores;
    private Model model;
    private int run;
    private int calls;

    public static void main(String[] args) {
        ModelTest test = new ModelTest();
        for (int run = 1; run <= RUNS; run++) {
            test.random = new Random(run);
            test.cores = new TwinCores();
            test.model = new Model();
            test.run = run;
            test.calls = 0;
            test.oneRun();
        }
        test.check.end();
    }

    /** As many calls as an object is used for. */
    private void oneRun() {
        for (int machine = 0; machine < 2; machine++) {
            for (int place = 0x200; place < 0x300; place += 20) {
                load(machine, place, code(machine), 20);
            }
            load(machine, 0xFFFA, vectors(), 6);
            reset(machine);
        }
        while (calls < CALLS) {
            oneCall();
        }
    }

    private void oneCall() {
        int machine = random.nextInt(40) == 0 ? random.nextInt(4) - 1 : random.nextInt(2);
        switch (random.nextInt(20)) {
            case 0 -> load(machine, place(), code(machine), random.nextInt(23) - 1);
            case 1 -> load(machine, 0x200 + random.nextInt(256), code(machine), 1 + random.nextInt(20));
            case 2 -> {
                if (random.nextInt(5) == 0) {
                    load(machine, 0xFFFA, vectors(), 6);
                } else {
                    reset(machine);
                }
            }
            case 3, 4, 5, 6, 7 -> run();
            case 8, 9, 10, 11, 12 -> {
                int k = random.nextInt(30) == 0 ? random.nextInt(9) - 1 : random.nextInt(7);
                same("register " + machine + " " + k, () -> cores.register(machine, k), () -> model.register(machine, k));
            }
            case 13, 14 -> {
                int k = random.nextInt(30) == 0 ? random.nextInt(10) - 1 : random.nextInt(8);
                same("port " + machine + " " + k, () -> cores.port(machine, k), () -> model.port(machine, k));
            }
            case 15 -> {
                int port = random.nextInt(6);
                same("waits " + machine + " " + port, () -> cores.waits(machine, port), () -> model.waits(machine, port));
            }
            case 16 -> same("steps " + machine, () -> cores.steps(machine), () -> model.steps(machine));
            case 17 -> {
                int place = place();
                same("byteAt " + machine + " " + place, () -> cores.byteAt(machine, place), () -> model.byteAt(machine, place));
            }
            case 18 -> {
                int place = 0x1E0 + random.nextInt(32);
                same("byteAt " + machine + " " + place, () -> cores.byteAt(machine, place), () -> model.byteAt(machine, place));
            }
            default -> {
                if (random.nextInt(50) == 0) {
                    clear();
                }
            }
        }
    }

    private interface Answer {
        long get();
    }

    private void same(String call, Answer real, Answer due) {
        calls++;
        check.same("run " + run + ", call " + calls + ", " + call, answered(real), answered(due));
    }

    private static long answered(Answer answer) {
        try {
            return answer.get();
        } catch (IndexOutOfBoundsException e) {
            return -1001;
        } catch (IllegalArgumentException e) {
            return -1002;
        }
    }

    private void load(int machine, int place, int[] five, int n) {
        same("load " + machine + " " + place + " n " + n, () -> {
            cores.load(machine, place, five[0], five[1], five[2], five[3], five[4], n);
            return 0;
        }, () -> {
            model.load(machine, place, five, n);
            return 0;
        });
    }

    private void reset(int machine) {
        same("reset " + machine, () -> {
            cores.reset(machine);
            return 0;
        }, () -> {
            model.reset(machine);
            return 0;
        });
    }

    private void clear() {
        same("clear", () -> {
            cores.clear();
            return 0;
        }, () -> {
            model.clear();
            return 0;
        });
    }

    private void run() {
        int n = random.nextInt(40) == 0 ? random.nextInt(8) * 1000 - 1000 : random.nextInt(12);
        int ratio = random.nextInt(40) == 0 ? random.nextInt(7) - 1 : random.nextInt(5);
        same("run " + n + " " + ratio, () -> cores.run(n, ratio), () -> model.run(n, ratio));
    }

    private int place() {
        return random.nextInt(20) == 0 ? random.nextInt(200000) - 60000 : random.nextInt(65536);
    }

    private int[] vectors() {
        int[] bytes = new int[20];
        for (int i = 0; i < 6; i += 2) {
            bytes[i] = random.nextInt(256);
            bytes[i + 1] = random.nextInt(30) == 0 ? 0xFE : 2;
        }
        return packed(bytes);
    }

    /** Mostly codes that there are, with operands that often tell a port. */
    private int[] code(int machine) {
        int[] bytes = new int[24];
        int at = 0;
        while (at < 20) {
            if (random.nextInt(60) == 0) {
                bytes[at++] = random.nextInt(256);
                continue;
            }
            if (random.nextInt(6) == 0) {
                at = flagWrite(bytes, at);
                continue;
            }
            int code = codes.get(random.nextInt(codes.size()));
            bytes[at++] = code;
            at = operand(machine, bytes, at, Model.CODES.get(code));
        }
        return packed(bytes);
    }

    private int flagWrite(int[] bytes, int at) {
        if (at > 15) {
            bytes[at] = 0x58;
            return at + 1;
        }
        int flags = random.nextInt(256) & (random.nextInt(4) == 0 ? 0xFF : 0xDF);
        int[] write = {0xA9, flags, 0x8D, 0xE0, 0xFE};
        System.arraycopy(write, 0, bytes, at, 5);
        return at + 5;
    }

    private int operand(int machine, int[] bytes, int at, String[] told) {
        boolean jumps = told[0].startsWith("J");
        if (told[1].contains("a")) {
            boolean port = random.nextInt(jumps ? 30 : 2) == 0;
            int base = machine == 0 ? 0xE0 : 0xF8;
            bytes[at] = port ? base + random.nextInt(8) : random.nextInt(256);
            bytes[at + 1] = port ? 0xFE : jumps ? 2 : random.nextInt(6);
            return at + 2;
        }
        if (!told[1].equals("-")) {
            bytes[at] = random.nextInt(256);
            return at + 1;
        }
        return at;
    }

    private static int[] packed(int[] bytes) {
        int[] five = new int[5];
        for (int i = 0; i < 20; i++) {
            five[i / 4] |= bytes[i] << 24 - 8 * (i % 4);
        }
        return five;
    }
}
