import java.util.ArrayDeque;
import java.util.ArrayList;
import java.util.Deque;
import java.util.List;
import java.util.Random;

/** All promises together: runs of calls drawn from fixed seeds, answered by FlightDesk and by PlainDesk alike. */
public final class RandomRunsTest {
    private static final int RUNS = 4000;
    private static final int CALLS = 400;
    private static final int[] FIRST_BELOW = {1, 1, 8, 1, 3, 256, 4, 4, 4, 4, 2, 2, 9, 9};
    private static final int[] WANTED = {0, 0, 2, 2, 1, 1, 6, 1, 1, 1, 3, 1};

    private final Random random;
    private final FlightDesk x = new FlightDesk();
    private final PlainDesk plain = new PlainDesk();
    private final Deque<Integer> bytes = new ArrayDeque<>();
    private final boolean silent;

    private RandomRunsTest(long seed) {
        random = new Random(seed);
        // Half of the runs ask little, so that the store fills and the frames follow one another.
        silent = seed % 2 == 0;
    }

    public static void main(String[] args) {
        for (int seed = 0; seed < RUNS; seed++) {
            new RandomRunsTest(seed).run(seed);
        }
        Desk.finish();
    }

    private void run(int seed) {
        for (int call = 0; call < CALLS; call++) {
            int kind = random.nextInt(silent ? 40 : 20);
            String name = "seed " + seed + ", call " + call + " of kind " + kind;
            int[] answers = answer(kind);
            Desk.due(name, answers[0], answers[1]);
        }
        compareState("seed " + seed + ", at the end: ");
    }

    private void compareState(String name) {
        for (int n = 0; n < 10; n++) {
            Desk.due(name + "count " + n, x.count(n), plain.count(n));
            Desk.due(name + "parameter " + n, x.parameter(n), plain.parameter(n));
        }
        for (int n = 0; n < 4; n++) {
            Desk.due(name + "watch " + n, x.watch(n), plain.watch(n));
            Desk.due(name + "action " + n, x.action(n), plain.action(n));
        }
        for (int k = 0; k < 7; k++) {
            Desk.due(name + "planned " + k, x.planned(k), plain.planned(k));
            Desk.due(name + "plannedService " + k, x.plannedService(k), plain.plannedService(k));
        }
        for (int i = 0; i < 11; i++) {
            for (int what = 0; what < 4; what++) {
                Desk.due(name + "report " + i + ", " + what, x.report(what), plain.report(what));
            }
            Desk.due(name + "take " + i, x.take(), plain.take());
        }
    }

    private int[] answer(int kind) {
        int n = random.nextInt(10) - 1;
        switch (kind) {
            case 0: case 1: return both(x.tick(), plain.tick());
            case 2: return both(x.report(n), plain.report(n));
            case 3: return both(x.take(), plain.take());
            case 4: return both(x.parameter(n), plain.parameter(n));
            case 5: {
                int value = random.nextInt(8) == 0 ? random.nextInt(400) - 200 : random.nextInt(9) - 4;
                return both(x.sense(n, value), plain.sense(n, value));
            }
            case 6: return both(x.planned(n), plain.planned(n));
            case 7: return both(x.plannedService(n), plain.plannedService(n));
            case 8: return both(x.watch(n), plain.watch(n));
            case 9: return both(x.action(n), plain.action(n));
            case 10: return both(x.count(n + 1), plain.count(n + 1));
            default: {
                int value = nextByte();
                return both(x.uplink(value), plain.uplink(value));
            }
        }
    }

    private static int[] both(int got, int want) {
        return new int[] {got, want};
    }

    private int nextByte() {
        if (random.nextInt(300) == 0) {
            return random.nextInt(600) - 200;
        }
        if (bytes.isEmpty()) {
            sendFrame();
        }
        return bytes.poll();
    }

    private void sendFrame() {
        List<Integer> content = new ArrayList<>();
        content.add(random.nextInt(256));
        addCommand(content, 0);
        while (content.size() > 12) {
            content.remove(12);
        }
        if (random.nextInt(20) == 0) {
            content.add(random.nextInt(4));
        }
        if (random.nextInt(20) == 0 && content.size() > 2) {
            content.remove(content.size() - 1);
        }
        int[] row = content.stream().mapToInt(b -> b).toArray();
        bytes.add(235);
        bytes.add(row.length);
        bytes.addAll(content);
        bytes.add(random.nextInt(25) == 0 ? random.nextInt(256) : Desk.check(row));
    }

    private void addCommand(List<Integer> content, int depth) {
        int service = random.nextInt(15) == 0 ? random.nextInt(14) : 1 + random.nextInt(11);
        // A SAFE mode that comes often and stays long would hide the rest.
        int first = service == 11 && random.nextInt(3) > 0 ? 0 : number(FIRST_BELOW[service]);
        content.add(service);
        int wanted = service < 12 ? WANTED[service] : random.nextInt(3);
        if (service == 6) {
            int low = random.nextInt(7) - 4;
            int high = low + random.nextInt(5) - (random.nextInt(9) == 0 ? 3 : 0);
            addAll(content, first, number(8), low, high, 1 + number(3), number(4));
        } else if (service == 3) {
            int hi = random.nextInt(30) == 0 ? random.nextInt(256) : 0;
            addAll(content, hi, plain.count(0) + random.nextInt(9));
        } else if (service == 5) {
            addAll(content, random.nextInt(12) - 4);
        } else {
            int[] row = new int[wanted];
            for (int i = 0; i < wanted; i++) {
                row[i] = i == 0 ? first : random.nextInt(2) == 0 ? random.nextInt(5) : random.nextInt(256);
            }
            addAll(content, row);
        }
        if ((service == 3 || service == 8) && depth < 3) {
            addCommand(content, depth + 1);
        }
    }

    private int number(int below) {
        return random.nextInt(25) == 0 ? random.nextInt(256) : random.nextInt(below);
    }

    private static void addAll(List<Integer> content, int... row) {
        for (int b : row) {
            content.add(b & 255);
        }
    }
}
