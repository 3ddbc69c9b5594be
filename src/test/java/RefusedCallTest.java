import java.util.ArrayList;
import java.util.List;
import java.util.function.Consumer;

/**
 * 'Methods throw what their comments name, the one named first when several would
 * do' and 'A call that throws changes nothing': each refused call on objects with
 * several pasts, and the last values that each method takes.
 */
final class RefusedCallTest {
    private static final int LOW = Integer.MIN_VALUE;
    private static final int HIGH = Integer.MAX_VALUE;
    private static final int[] NO_MACHINES = {-1, 2, LOW, HIGH};
    private static final int[] NO_PLACES = {-1, 65536, LOW, HIGH};
    private static final int[] NO_COUNTS = {0, 21, -1, LOW, HIGH};
    private static final Check CHECK = new Check();

    private static final class Refused {
        final String told;
        final Class<? extends RuntimeException> due;
        final Consumer<TwinCores> call;

        Refused(String told, Class<? extends RuntimeException> due, Consumer<TwinCores> call) {
            this.told = told;
            this.due = due;
            this.call = call;
        }

        void make(TwinCores cores) {
            CHECK.refused(told, due, () -> call.accept(cores));
        }
    }

    public static void main(String[] args) {
        CHECK.test("load: no such machine, no such place, n is not 1 .. 20", () -> refuse(loads()));
        CHECK.test("the one named first: load with a machine or place and an n that are not there", () -> refuse(loadsOfTwoFaults()));
        CHECK.test("byteAt: no such machine, no such place", () -> refuse(bytes()));
        CHECK.test("reset: no such machine", () -> refuse(resets()));
        CHECK.test("run: n is not 0 .. 4000, or ratio not 0 .. 4", () -> refuse(runs()));
        CHECK.test("register: no such machine, no such register", () -> refuse(registers()));
        CHECK.test("port: no such machine, no such place", () -> refuse(ports()));
        CHECK.test("waits: no such machine, no such port", () -> refuse(waits()));
        CHECK.test("steps: no such machine", () -> refuse(steps()));
        CHECK.test("load takes its last values", RefusedCallTest::lastOfLoad);
        CHECK.test("run takes its last values", RefusedCallTest::lastOfRun);
        CHECK.test("the methods that ask take their last values", RefusedCallTest::lastOfAsking);
        CHECK.end();
    }

    /** Nothing has changed: not what can be asked now, and not what comes when the machines run on. */
    private static void refuse(List<Refused> calls) {
        for (State.Past past : Pasts.ALL) {
            for (Refused call : calls) {
                call.make(past.made());
            }
            CHECK.sameState("state behind the refused calls", () -> behindAll(calls, past), past);
            CHECK.sameState("run on behind them", () -> ranOn(behindAll(calls, past)), () -> ranOn(past.made()));
        }
    }

    private static TwinCores behindAll(List<Refused> calls, State.Past past) {
        TwinCores cores = past.made();
        for (Refused call : calls) {
            call.make(cores);
        }
        return cores;
    }

    private static TwinCores ranOn(TwinCores cores) {
        cores.run(37, 3);
        return cores;
    }

    private static Refused noIndex(String told, Consumer<TwinCores> call) {
        return new Refused(told, IndexOutOfBoundsException.class, call);
    }

    private static Refused noArgument(String told, Consumer<TwinCores> call) {
        return new Refused(told, IllegalArgumentException.class, call);
    }

    private static List<Refused> loads() {
        List<Refused> calls = new ArrayList<>();
        for (int machine : NO_MACHINES) {
            calls.add(noIndex("load machine " + machine, c -> c.load(machine, 0x200, -1, -1, -1, -1, -1, 20)));
        }
        for (int place : NO_PLACES) {
            calls.add(noIndex("load 0 at " + place, c -> c.load(0, place, -1, -1, -1, -1, -1, 20)));
            calls.add(noIndex("load 1 at " + place, c -> c.load(1, place, -1, -1, -1, -1, -1, 1)));
        }
        for (int n : NO_COUNTS) {
            calls.add(noArgument("load 0, n " + n, c -> c.load(0, 0xFFFF, -1, -1, -1, -1, -1, n)));
            calls.add(noArgument("load 1, n " + n, c -> c.load(1, 0, -1, -1, -1, -1, -1, n)));
        }
        return calls;
    }

    private static List<Refused> loadsOfTwoFaults() {
        List<Refused> calls = new ArrayList<>();
        for (int n : NO_COUNTS) {
            for (int machine : NO_MACHINES) {
                calls.add(noIndex("load machine " + machine + ", n " + n, c -> c.load(machine, 0, -1, -1, -1, -1, -1, n)));
            }
            for (int place : NO_PLACES) {
                calls.add(noIndex("load at " + place + ", n " + n, c -> c.load(1, place, -1, -1, -1, -1, -1, n)));
            }
        }
        return calls;
    }

    private static List<Refused> bytes() {
        List<Refused> calls = new ArrayList<>();
        for (int machine : NO_MACHINES) {
            calls.add(noIndex("byteAt " + machine + " 0", c -> c.byteAt(machine, 0)));
        }
        for (int place : NO_PLACES) {
            calls.add(noIndex("byteAt 0 " + place, c -> c.byteAt(0, place)));
            calls.add(noIndex("byteAt 1 " + place, c -> c.byteAt(1, place)));
        }
        return calls;
    }

    private static List<Refused> resets() {
        List<Refused> calls = new ArrayList<>();
        for (int machine : NO_MACHINES) {
            calls.add(noIndex("reset " + machine, c -> c.reset(machine)));
        }
        return calls;
    }

    private static List<Refused> runs() {
        List<Refused> calls = new ArrayList<>();
        for (int n : new int[] {-1, 4001, LOW, HIGH}) {
            calls.add(noArgument("run " + n + " 0", c -> c.run(n, 0)));
            calls.add(noArgument("run " + n + " 4", c -> c.run(n, 4)));
        }
        for (int ratio : new int[] {-1, 5, LOW, HIGH}) {
            calls.add(noArgument("run 0 " + ratio, c -> c.run(0, ratio)));
            calls.add(noArgument("run 3 " + ratio, c -> c.run(3, ratio)));
            calls.add(noArgument("run 4001 " + ratio, c -> c.run(4001, ratio)));
        }
        return calls;
    }

    private static List<Refused> registers() {
        List<Refused> calls = new ArrayList<>();
        for (int machine : NO_MACHINES) {
            calls.add(noIndex("register " + machine + " 0", c -> c.register(machine, 0)));
            calls.add(noIndex("register " + machine + " 6", c -> c.register(machine, 6)));
        }
        for (int k : new int[] {-1, 7, LOW, HIGH}) {
            calls.add(noIndex("register 0 " + k, c -> c.register(0, k)));
            calls.add(noIndex("register 1 " + k, c -> c.register(1, k)));
        }
        return calls;
    }

    private static List<Refused> ports() {
        List<Refused> calls = new ArrayList<>();
        for (int machine : NO_MACHINES) {
            calls.add(noIndex("port " + machine + " 0", c -> c.port(machine, 0)));
            calls.add(noIndex("port " + machine + " 7", c -> c.port(machine, 7)));
        }
        for (int k : new int[] {-1, 8, LOW, HIGH}) {
            calls.add(noIndex("port 0 " + k, c -> c.port(0, k)));
            calls.add(noIndex("port 1 " + k, c -> c.port(1, k)));
        }
        return calls;
    }

    private static List<Refused> waits() {
        List<Refused> calls = new ArrayList<>();
        for (int machine : NO_MACHINES) {
            calls.add(noIndex("waits " + machine + " 1", c -> c.waits(machine, 1)));
            calls.add(noIndex("waits " + machine + " 4", c -> c.waits(machine, 4)));
        }
        for (int port : new int[] {0, 5, -1, LOW, HIGH}) {
            calls.add(noIndex("waits 0 " + port, c -> c.waits(0, port)));
            calls.add(noIndex("waits 1 " + port, c -> c.waits(1, port)));
        }
        return calls;
    }

    private static List<Refused> steps() {
        List<Refused> calls = new ArrayList<>();
        for (int machine : NO_MACHINES) {
            calls.add(noIndex("steps " + machine, c -> c.steps(machine)));
        }
        return calls;
    }

    private static void lastOfLoad() {
        TwinCores cores = new TwinCores();
        for (int machine = 0; machine < 2; machine++) {
            cores.load(machine, 0, 0x11000000, 0, 0, 0, 0, 1);
            CHECK.same("place 0, n 1", cores.byteAt(machine, 0), 0x11);
            cores.load(machine, 65535, 0x22333333, -1, -1, -1, 0x33333344, 20);
            CHECK.same("place 65535, n 20: the first", cores.byteAt(machine, 65535), 0x22);
            CHECK.same("place 65535, n 20: the last", cores.byteAt(machine, 18), 0x44);
        }
    }

    private static void lastOfRun() {
        for (int ratio = 0; ratio <= 4; ratio += 4) {
            TwinCores cores = new Bench().start(0, 0x200, "4C 00 02").start(1, 0x300, "4C 00 03").cores;
            CHECK.same("run 0 " + ratio, cores.run(0, ratio), 0);
            CHECK.same("steps behind run 0", cores.steps(0) + cores.steps(1), 0);
            CHECK.same("run 4000 " + ratio, cores.run(4000, ratio), 4000);
            CHECK.same("steps of 0 behind run 4000", cores.steps(0), 4000);
            CHECK.same("steps of 1 behind run 4000", cores.steps(1), 4000 * ratio);
        }
    }

    private static void lastOfAsking() {
        TwinCores cores = new TwinCores();
        for (int machine = 0; machine < 2; machine++) {
            CHECK.same("byteAt 0", cores.byteAt(machine, 0), 0);
            CHECK.same("byteAt 65535", cores.byteAt(machine, 65535), 0);
            CHECK.same("register 0", cores.register(machine, 0), 0);
            CHECK.same("register 6", cores.register(machine, 6), 1);
            CHECK.same("port 0", cores.port(machine, 0), 0x40);
            CHECK.same("port 7", cores.port(machine, 7), 0);
            CHECK.same("waits 1", cores.waits(machine, 1), 0);
            CHECK.same("waits 4", cores.waits(machine, 4), 0);
            CHECK.same("steps", cores.steps(machine), 0);
            cores.reset(machine);
            CHECK.same("reset", cores.register(machine, 6), 0);
        }
    }
}
