/** Promise 3, its edges: what is just due and not yet, just inside and outside a range, never and always. */
public final class TickEdgesTest {
    public static void main(String[] args) {
        dueAndNotYetDue();
        dueLateWhenThePlanRested();
        aFullPlanDueAtOnce();
        nothingIsPutBackIntoTheSameTick();
        watchRanges();
        aRangeOfAllValues();
        countBelowN();
        countStaysAtN();
        countBackAtZero();
        valuesOfEvents();
        eventWithoutAction();
        offWhenItsTurnComes();
        listNever();
        listEvery();
        listDividesTheClockNotItsAge();
        listMasks();
        listSums();
        aTickIntoAFullStore();
        lastClock();
        Desk.finish();
    }

    private static void dueAndNotYetDue() {
        Desk d = new Desk();
        d.done(1, 3, 0, 4, 2, 0, 1);
        d.done(2, 3, 0, 5, 2, 0, 2);
        d.done(3, 3, 0, 6, 2, 0, 3);
        d.empty();
        int[] values = {0, 0, 0, 1, 2, 3, 3};
        for (int clock = 1; clock <= 7; clock++) {
            d.ticks(1);
            Desk.due("parameter at " + clock, d.x.parameter(0), values[clock - 1]);
            Desk.due("entries at " + clock, d.x.count(3), Math.max(0, Math.min(3, 6 - clock)));
        }
        d.report(1, 4, 256, 2);
        d.report(1, 5, 256, 2);
        d.report(1, 6, 256, 2);
        d.noReport();
    }

    private static void dueLateWhenThePlanRested() {
        Desk d = new Desk();
        d.done(1, 3, 0, 2, 2, 0, 1);
        d.done(2, 3, 0, 5, 2, 0, 2);
        d.done(3, 3, 0, 6, 2, 0, 3);
        d.done(4, 4, 0);
        d.ticks(4);
        d.plan(2, 2, 5, 2, 6, 2);
        d.done(5, 4, 1);
        d.plan(2, 2, 5, 2, 6, 2);
        d.empty();
        d.ticks(1);
        d.report(1, 5, 256, 2);
        d.report(1, 5, 256, 2);
        d.noReport();
        d.plan(6, 2);
        Desk.due("parameter", d.x.parameter(0), 2);
    }

    private static void aFullPlanDueAtOnce() {
        Desk d = new Desk();
        for (int i = 1; i <= 6; i++) {
            d.done(i, 3, 0, 1, 2, 0, i * 20);
        }
        d.plan(1, 2, 1, 2, 1, 2, 1, 2, 1, 2, 1, 2);
        d.empty();
        d.ticks(1);
        d.plan();
        for (int i = 1; i <= 6; i++) {
            d.report(1, 1, 256, 2);
        }
        d.noReport();
        Desk.due("parameter", d.x.parameter(0), 120);
        for (int i = 1; i <= 6; i++) {
            d.done(i, 3, 0, 2, 1);
        }
        d.refused(5, 7, 3, 0, 2, 1);
    }

    /** A SHIFT from the plan brings an entry to the very next clock, not into this tick. */
    private static void nothingIsPutBackIntoTheSameTick() {
        Desk d = new Desk();
        d.done(1, 3, 0, 3, 5, 255);
        d.done(2, 3, 0, 5, 2, 0, 1);
        d.ticks(3);
        d.plan(4, 2);
        Desk.due("parameter", d.x.parameter(0), 0);
        d.ticks(1);
        d.plan();
        Desk.due("parameter", d.x.parameter(0), 1);
    }

    private static int countOf(int value, int low, int high) {
        Desk d = new Desk();
        d.done(1, 6, 1, 6, low & 255, high & 255, 2, 3);
        d.x.sense(6, value);
        d.ticks(1);
        return d.x.watch(1);
    }

    private static void watchRanges() {
        int[][] ranges = {{-20, 30}, {0, 0}, {-1, -1}, {-128, -128}, {127, 127}, {-128, 0}, {0, 127}, {5, 6}, {-7, -5}};
        for (int[] range : ranges) {
            for (int v = -128; v <= 127; v++) {
                boolean inside = v >= range[0] && v <= range[1];
                Desk.due(v + " in " + range[0] + " .. " + range[1], countOf(v, range[0], range[1]), inside ? 0 : 1);
            }
        }
    }

    private static void aRangeOfAllValues() {
        for (int v = -128; v <= 127; v++) {
            Desk.due(v + " in all values", countOf(v, -128, 127), 0);
        }
    }

    private static Desk watched(int n, int value) {
        Desk d = new Desk();
        d.done(1, 6, 3, 4, 246, 10, n, 2);
        d.x.sense(4, value);
        d.empty();
        return d;
    }

    private static void countBelowN() {
        for (int n = 1; n <= 3; n++) {
            Desk d = watched(n, 11);
            Desk.due("count at first", d.x.watch(3), 0);
            for (int i = 1; i < n; i++) {
                d.ticks(1);
                Desk.due("count below " + n, d.x.watch(3), i);
                d.noReport();
            }
            d.ticks(1);
            Desk.due("count at " + n, d.x.watch(3), n);
            d.report(4, n, 2, 11);
            d.noReport();
        }
    }

    private static void countStaysAtN() {
        for (int n = 1; n <= 3; n++) {
            Desk d = watched(n, -11);
            d.ticks(n);
            d.empty();
            for (int i = 0; i < 5; i++) {
                d.ticks(1);
                Desk.due("count beyond " + n, d.x.watch(3), n);
                d.noReport();
            }
        }
    }

    private static void countBackAtZero() {
        for (int n = 1; n <= 3; n++) {
            for (int before = 1; before <= n + 1; before++) {
                Desk d = watched(n, 127);
                d.ticks(before);
                d.empty();
                d.x.sense(4, before % 2 == 0 ? 10 : -10);
                d.ticks(1);
                Desk.due("count in range", d.x.watch(3), 0);
                d.noReport();
                d.x.sense(4, -128);
                d.ticks(n);
                d.report(4, before + 1 + n, 2, -128);
                d.noReport();
            }
        }
    }

    private static void valuesOfEvents() {
        for (int v : new int[] {-128, -127, -1, 0, 1, 126, 127}) {
            for (int e = 0; e < 4; e++) {
                Desk d = new Desk();
                d.done(1, 6, 2, 7, 50, 50, 1, e);
                d.x.sense(7, v);
                d.empty();
                d.ticks(1);
                d.report(4, 1, e, v);
                d.noReport();
            }
        }
    }

    private static void eventWithoutAction() {
        for (int e = 0; e < 4; e++) {
            Desk d = new Desk();
            for (int other = 0; other < 4; other++) {
                d.done(other, 8, other, 2, other, 9);
            }
            d.done(5, 9, e);
            d.done(6, 6, 0, 7, 1, 1, 1, e);
            d.empty();
            d.ticks(1);
            d.report(4, 1, e, 0);
            d.noReport();
            for (int p = 0; p < 4; p++) {
                Desk.due("parameter " + p, d.x.parameter(p), 0);
            }
            d.counts(9, 6);
        }
    }

    /** A watch that the plan or an earlier watch's action turns off or on before its turn is seen as it is then. */
    private static void offWhenItsTurnComes() {
        Desk off = new Desk();
        off.done(1, 6, 0, 0, 1, 1, 1, 0);
        off.done(2, 6, 3, 0, 1, 1, 1, 3);
        off.done(3, 8, 0, 7, 3);
        off.done(4, 3, 0, 2, 6, 1, 0, 1, 1, 1, 1);
        off.done(5, 3, 0, 2, 7, 0);
        off.empty();
        off.ticks(1);
        off.report(4, 1, 0, 0);
        off.report(1, 1, 257, 7);
        off.noReport();
        off.ticks(1);
        off.report(1, 2, 256, 6);
        off.report(1, 2, 256, 7);
        off.report(4, 2, 1, 0);
        off.noReport();
        int[] counts = {-1, 1, -1, -1};
        for (int m = 0; m < 4; m++) {
            Desk.due("watch " + m, off.x.watch(m), counts[m]);
        }
    }

    private static void listNever() {
        Desk d = new Desk();
        d.done(1, 10, 0, 0, 255);
        d.done(2, 10, 1, 0, 255);
        d.empty();
        d.ticks(300);
        d.noReport();
        d.done(3, 10, 1, 1, 255);
        d.ticks(1);
        d.done(4, 10, 1, 0, 255);
        d.empty();
        d.ticks(100);
        d.noReport();
    }

    private static void listEvery() {
        for (int every : new int[] {1, 2, 3, 7, 128, 254, 255}) {
            Desk d = new Desk();
            d.done(1, 10, 1, every, 1);
            d.empty();
            // At most three reports, so that an object stays within its calls.
            int last = Math.min(3 * every, 300);
            int reports = 0;
            for (int clock = 1; clock <= last; clock++) {
                d.x.tick();
                if (clock % every == 0) {
                    reports++;
                }
            }
            Desk.due("reports every " + every, d.x.count(4), reports);
            for (int i = 1; i <= reports; i++) {
                d.report(5, i * every, 1, 0);
            }
        }
    }

    private static void listDividesTheClockNotItsAge() {
        Desk d = new Desk();
        d.ticks(5);
        d.done(1, 10, 0, 4, 1);
        d.empty();
        d.ticks(2);
        d.noReport();
        d.ticks(1);
        d.report(5, 8, 0, 0);
        d.done(2, 10, 0, 4, 1);
        d.empty();
        d.ticks(3);
        d.noReport();
        d.ticks(1);
        d.report(5, 12, 0, 0);
    }

    private static void listMasks() {
        for (int mask = 0; mask < 256; mask++) {
            Desk d = new Desk();
            int sum = 0;
            for (int p = 0; p < 8; p++) {
                int value = p < 7 ? 1 << p : -128;
                d.x.sense(p, value);
                sum += mask / (1 << p) % 2 == 1 ? value : 0;
            }
            d.done(1, 10, mask % 2, 1, mask);
            d.empty();
            d.ticks(1);
            d.report(5, 1, mask % 2, sum);
            d.noReport();
        }
    }

    private static void listSums() {
        for (int v : new int[] {-128, -125, -1, 0, 1, 127}) {
            Desk d = new Desk();
            for (int p = 0; p < 8; p++) {
                d.x.sense(p, v);
            }
            d.done(1, 10, 0, 1, 255);
            d.empty();
            d.ticks(1);
            d.report(5, 1, 0, 8 * v);
            d.noReport();
        }
    }

    /** Every kind of report that a tick makes drops the oldest one of a full store. */
    private static void aTickIntoAFullStore() {
        Desk d = new Desk();
        d.done(1, 3, 0, 1, 1);
        d.done(2, 3, 0, 1, 5, 0);
        d.done(3, 6, 2, 0, 1, 1, 1, 1);
        d.done(4, 8, 1, 11, 1);
        d.done(5, 10, 1, 1, 1);
        for (int i = 6; i <= 10; i++) {
            d.done(i, 7, 0);
        }
        d.counts(4, 10, 0);
        d.ticks(1);
        d.counts(4, 10, 6);
        for (int i = 7; i <= 10; i++) {
            d.report(1, 0, i, 7);
        }
        d.report(3, 1, 256, 0);
        d.report(1, 1, 256, 1);
        d.report(1, 1, 256, 5);
        d.report(4, 1, 1, 0);
        d.report(1, 1, 257, 11);
        d.report(5, 1, 1, 0);
        d.noReport();
    }

    /** Far past the calls that the document answers for, but a tick beyond 60000 is refused all the same. */
    private static void lastClock() {
        Desk d = new Desk();
        d.ticks(60000);
        Desk.due("tick at 60000", d.x.tick(), Desk.R);
        d.counts(0, 60000);
        d.noReport();
    }
}
