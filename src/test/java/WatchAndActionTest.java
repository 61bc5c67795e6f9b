/** Promises 10 and 11: the counts of the watches and the actions of the events. */
public final class WatchAndActionTest {
    private static final int[] WRONG = {-1, 4, 5, 256, Integer.MIN_VALUE, Integer.MAX_VALUE};

    public static void main(String[] args) {
        wrongNumbers();
        watchesApart();
        actionsApart();
        everyAction();
        Desk.finish();
    }

    private static void wrongNumbers() {
        Desk d = new Desk();
        for (int n : WRONG) {
            Desk.due("watch(" + n + ")", d.x.watch(n), Desk.R);
            Desk.due("action(" + n + ")", d.x.action(n), Desk.R);
        }
        d.done(1, 6, 0, 0, 0, 0, 1, 0);
        d.done(2, 6, 3, 0, 0, 0, 1, 0);
        d.done(3, 8, 0, 1);
        d.done(4, 8, 3, 7, 0);
        int[] watches = {Desk.R, 0, -1, -1, 0, Desk.R};
        int[] actions = {Desk.R, 1, 0, 0, 7, Desk.R};
        for (int n = -1; n <= 4; n++) {
            Desk.due("watch(" + n + ")", d.x.watch(n), watches[n + 1]);
            Desk.due("action(" + n + ")", d.x.action(n), actions[n + 1]);
        }
    }

    private static void watchesApart() {
        Desk d = new Desk();
        for (int m = 0; m < 4; m++) {
            d.done(m, 6, m, 7 - m, 0, 9, 3, 3 - m);
            for (int other = 0; other < 4; other++) {
                Desk.due("watch(" + other + ")", d.x.watch(other), other <= m ? 0 : -1);
            }
        }
        d.x.sense(5, 10);
        d.ticks(1);
        d.x.sense(7, -1);
        d.ticks(1);
        int[] counts = {1, 0, 2, 0};
        for (int m = 0; m < 4; m++) {
            Desk.due("watch(" + m + ")", d.x.watch(m), counts[m]);
        }
        d.empty();
        d.ticks(2);
        d.report(4, 3, 1, 10);
        d.report(4, 4, 3, -1);
        d.noReport();
        Desk.due("watch(2)", d.x.watch(2), 3);
        d.done(9, 7, 2);
        Desk.due("watch(2)", d.x.watch(2), -1);
        Desk.due("watch(0)", d.x.watch(0), 3);
    }

    private static void actionsApart() {
        Desk d = new Desk();
        int[] services = {1, 7, 9, 4};
        d.done(1, 8, 0, 1);
        d.done(2, 8, 1, 7, 0);
        d.done(3, 8, 2, 9, 0);
        d.done(4, 8, 3, 4, 0);
        for (int e = 0; e < 4; e++) {
            Desk.due("action(" + e + ")", d.x.action(e), services[e]);
        }
        d.done(5, 9, 2);
        Desk.due("action(2)", d.x.action(2), 0);
        Desk.due("action(1)", d.x.action(1), 7);
        Desk.due("action(3)", d.x.action(3), 4);
    }

    private static void everyAction() {
        int[][] commands = {
            {1}, {2, 0, 1}, {4, 1}, {5, 1}, {6, 1, 0, 0, 127, 1, 3}, {7, 1}, {9, 2}, {10, 0, 0, 0}, {11, 0},
        };
        for (int[] command : commands) {
            Desk d = new Desk();
            int[] content = new int[3 + command.length];
            content[0] = 5;
            content[1] = 8;
            content[2] = 1;
            System.arraycopy(command, 0, content, 3, command.length);
            d.done(content);
            Desk.due("action(1)", d.x.action(1), command[0]);
            d.done(6, 6, 0, 0, 1, 127, 1, 1);
            d.empty();
            d.ticks(1);
            d.report(4, 1, 1, 0);
            if (command[0] == 1) {
                d.report(3, 1, 257, 0);
            }
            d.report(1, 1, 257, command[0]);
            d.noReport();
            Desk.due("the action stays", d.x.action(1), command[0]);
        }
    }
}
