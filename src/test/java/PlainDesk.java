import java.util.ArrayList;
import java.util.Comparator;
import java.util.List;

/** The document told a second time, with lists in place of rows, so that RandomRunsTest can compare the two. */
final class PlainDesk {
    private static final int R = -1000;

    private static final class Entry {
        int time;
        List<Integer> command;
    }

    private final List<Integer> frame = new ArrayList<>();
    private final List<Entry> plan = new ArrayList<>();
    private final List<int[]> store = new ArrayList<>();
    private final int[] parameters = new int[8];
    private final int[][] watches = new int[4][];
    private final List<List<Integer>> actions = new ArrayList<>();
    private final int[][] lists = new int[2][2];
    private final int[] counts = {0, 0, 1, 0, 0, 0, 0, 0, 0, 0};

    PlainDesk() {
        for (int e = 0; e < 4; e++) {
            actions.add(null);
        }
    }

    int uplink(int value) {
        if (value != (value & 255)) {
            return R;
        }
        if (frame.isEmpty() && value != 235) {
            counts[8]++;
            return 5;
        }
        frame.add(value);
        if (frame.size() == 2 && (value < 2 || value > 12)) {
            frame.clear();
            counts[7]++;
            return 3;
        }
        if (frame.size() < 2 || frame.size() < frame.get(1) + 3) {
            return 0;
        }
        List<Integer> content = new ArrayList<>(frame.subList(2, frame.size() - 1));
        frame.clear();
        int c = 255;
        for (int b : content) {
            c = ((c << 1 | c >> 7) & 255) ^ b;
        }
        if (c != value) {
            counts[7]++;
            return 4;
        }
        counts[6]++;
        List<Integer> command = content.subList(1, content.size());
        int code = broken(command);
        if (code != 0) {
            tell(2, content.get(0), code);
            return 2;
        }
        return carryOut(command, content.get(0)) ? 1 : 2;
    }

    private static int broken(List<Integer> command) {
        int service = command.get(0);
        List<Integer> a = command.subList(1, command.size());
        if (service == 0 || service >= 12) {
            return 1;
        }
        int wanted = "002211611131".charAt(service) - '0';
        boolean holds = service == 3 || service == 8;
        if (holds && a.size() < wanted + 1 || !holds && a.size() != wanted) {
            return 2;
        }
        int[] below = {256, 256, 8, 256, 3, 256, 4, 4, 4, 4, 2, 2};
        if (!a.isEmpty() && a.get(0) >= below[service]) {
            return 3;
        }
        if (service == 6 && (a.get(1) > 7 || signed(a.get(3)) < signed(a.get(2))
                || a.get(4) == 0 || a.get(4) > 3 || a.get(5) > 3)) {
            return 3;
        }
        if (!holds) {
            return 0;
        }
        int inner = a.get(wanted);
        if (inner == 3 || inner == 8 && service == 8) {
            return 3;
        }
        return broken(a.subList(wanted, a.size()));
    }

    private static int signed(int x) {
        return (byte) x;
    }

    private void tell(int kind, int first, int second) {
        if (store.size() == 10) {
            store.remove(0);
            counts[5]++;
        }
        store.add(new int[] {kind, counts[0], first, second});
    }

    private int fault(List<Integer> command) {
        int service = command.get(0);
        if (counts[1] == 1 && !List.of(1, 2, 7, 11).contains(service)) {
            return 4;
        }
        if (service == 3) {
            return plan.size() == 6 ? 5 : command.get(1) * 256 + command.get(2) > counts[0] ? 0 : 6;
        }
        for (Entry entry : plan) {
            int time = service == 5 ? entry.time + signed(command.get(1)) : 65535;
            if (time <= counts[0] || time > 65535) {
                return 6;
            }
        }
        return 0;
    }

    private boolean carryOut(List<Integer> given, int number) {
        List<Integer> command = List.copyOf(given);
        int code = fault(command);
        if (code != 0) {
            tell(2, number, code);
            return false;
        }
        perform(command, number);
        counts[9]++;
        tell(1, number, command.get(0));
        return true;
    }

    private void perform(List<Integer> command, int number) {
        int service = command.get(0);
        int a = command.size() > 1 ? command.get(1) : 0;
        if (service == 1) {
            int found = 0;
            for (int v : parameters) {
                found += v == 0 ? 0 : 1;
            }
            tell(3, number, found);
        } else if (service == 2) {
            parameters[a] = signed(command.get(2));
        } else if (service == 3) {
            Entry entry = new Entry();
            entry.time = a * 256 + command.get(2);
            entry.command = command.subList(3, command.size());
            plan.add(entry);
            plan.sort(Comparator.comparingInt(x -> x.time));
        } else if (service == 4 && a == 2) {
            plan.clear();
        } else if (service == 4) {
            counts[2] = a;
        } else if (service == 5) {
            plan.forEach(entry -> entry.time += signed(a));
        } else if (service == 6) {
            watches[a] = new int[] {command.get(2), signed(command.get(3)), signed(command.get(4)), command.get(5),
                command.get(6), 0};
        } else if (service == 7) {
            watches[a] = null;
        } else if (service == 8) {
            actions.set(a, command.subList(2, command.size()));
        } else if (service == 9) {
            actions.set(a, null);
        } else if (service == 10) {
            lists[a] = new int[] {command.get(2), command.get(3)};
        } else {
            counts[1] = a;
            counts[2] = a == 1 ? 0 : counts[2];
        }
    }

    int tick() {
        counts[0]++;
        if (counts[2] == 1) {
            List<Entry> due = new ArrayList<>(plan);
            due.removeIf(entry -> entry.time > counts[0]);
            plan.removeAll(due);
            due.forEach(entry -> carryOut(entry.command, 256));
        }
        for (int m = 0; m < 4; m++) {
            if (watches[m] != null) {
                look(watches[m]);
            }
        }
        for (int s = 0; s < 2; s++) {
            int sum = 0;
            for (int p = 0; p < 8; p++) {
                sum += (lists[s][1] & 1 << p) == 0 ? 0 : parameters[p];
            }
            if (lists[s][0] != 0 && counts[0] % lists[s][0] == 0) {
                tell(5, s, sum);
            }
        }
        return counts[0];
    }

    private void look(int[] w) {
        int value = parameters[w[0]];
        if (w[1] <= value && value <= w[2]) {
            w[5] = 0;
        } else if (w[5] < w[3]) {
            w[5]++;
            if (w[5] == w[3]) {
                tell(4, w[4], value);
                if (actions.get(w[4]) != null) {
                    carryOut(actions.get(w[4]), 257);
                }
            }
        }
    }

    int report(int what) {
        return store.isEmpty() || what < 0 || what > 3 ? R : store.get(0)[what];
    }

    int take() {
        if (store.isEmpty()) {
            return R;
        }
        store.remove(0);
        return store.size();
    }

    int parameter(int p) {
        return p < 0 || p > 7 ? R : parameters[p];
    }

    int sense(int p, int value) {
        if (p < 0 || p > 7 || value != (byte) value) {
            return R;
        }
        int before = parameters[p];
        parameters[p] = value;
        return before;
    }

    int planned(int k) {
        return k < 0 || k >= plan.size() ? R : plan.get(k).time;
    }

    int plannedService(int k) {
        return k < 0 || k >= plan.size() ? R : plan.get(k).command.get(0);
    }

    int watch(int m) {
        return m < 0 || m > 3 ? R : watches[m] == null ? -1 : watches[m][5];
    }

    int action(int e) {
        return e < 0 || e > 3 ? R : actions.get(e) == null ? 0 : actions.get(e).get(0);
    }

    int count(int what) {
        counts[3] = plan.size();
        counts[4] = store.size();
        return what < 0 || what > 9 ? R : counts[what];
    }
}
