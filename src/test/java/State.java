import java.util.ArrayList;
import java.util.List;

/**
 * All that can be asked of an object, a line each: registers, ports, what waits,
 * steps and every byte. An object answers only 512 calls, so its past is made
 * anew for each part of the bytes.
 */
final class State {
    /** Makes an object and brings it to where it is to be looked at. */
    interface Past {
        TwinCores made();
    }

    private static final int BYTES = 4096;
    private static final int BYTES_AT_ONCE = 256;

    private State() {
    }

    static List<String> of(Past past) {
        List<String> lines = new ArrayList<>();
        TwinCores cores = past.made();
        for (int machine = 0; machine < 2; machine++) {
            tellAllButBytes(cores, machine, lines);
        }
        for (int machine = 0; machine < 2; machine++) {
            for (int from = 0; from < BYTES; from += BYTES_AT_ONCE) {
                tellBytes(past.made(), machine, from, lines);
            }
        }
        return lines;
    }

    private static void tellAllButBytes(TwinCores cores, int machine, List<String> lines) {
        for (int k = 0; k < 7; k++) {
            lines.add("register " + machine + " " + k + " is " + cores.register(machine, k));
        }
        for (int k = 0; k < 8; k++) {
            lines.add("port " + machine + " " + k + " is " + cores.port(machine, k));
        }
        for (int port = 1; port <= 4; port++) {
            lines.add("waits " + machine + " " + port + " is " + cores.waits(machine, port));
        }
        lines.add("steps " + machine + " is " + cores.steps(machine));
    }

    private static void tellBytes(TwinCores cores, int machine, int from, List<String> lines) {
        for (int place = from; place < from + BYTES_AT_ONCE; place++) {
            lines.add("byteAt " + machine + " " + place + " is " + cores.byteAt(machine, place));
        }
    }
}
