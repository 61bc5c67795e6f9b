/** Promise 2, its third part: what each command does. */
public final class CommandTest {
    public static void main(String[] args) {
        ping();
        set();
        run();
        shift();
        watchCommands();
        actionCommands();
        mode();
        nothingToDo();
        signedArguments();
        Desk.finish();
    }

    private static void ping() {
        Desk d = new Desk();
        d.done(9, 1);
        d.report(3, 0, 9, 0);
        d.report(1, 0, 9, 1);
        for (int p = 0; p < 8; p++) {
            d.x.sense(p, p % 2 == 0 ? 127 : -128);
            d.ticks(1);
            d.done(p, 1);
            d.report(3, p + 1, p, p + 1);
            d.report(1, p + 1, p, 1);
        }
        d.noReport();
    }

    private static void set() {
        for (int v = 0; v < 256; v++) {
            Desk d = new Desk();
            int p = v % 8;
            d.done(v, 2, p, v);
            for (int q = 0; q < 8; q++) {
                Desk.due("parameter " + q, d.x.parameter(q), q == p ? (byte) v : 0);
            }
            d.report(1, 0, v, 2);
            d.noReport();
        }
    }

    private static void run() {
        Desk d = new Desk();
        d.done(1, 3, 0, 2, 2, 0, 1);
        d.done(2, 4, 0);
        d.counts(2, 0, 1);
        d.ticks(3);
        d.plan(2, 2);
        d.done(3, 4, 1);
        d.counts(2, 1, 1);
        Desk.due("parameter", d.x.parameter(0), 0);
        d.ticks(1);
        Desk.due("parameter", d.x.parameter(0), 1);
        d.plan();
        d.done(4, 3, 0, 9, 1);
        d.done(5, 4, 2);
        d.counts(2, 1, 0);
        d.done(6, 4, 0);
        d.done(7, 4, 2);
        d.counts(2, 0, 0);
        d.empty();
        d.ticks(10);
        d.noReport();
    }

    private static void shift() {
        Desk d = new Desk();
        d.done(1, 5, 128);
        d.done(2, 5, 127);
        d.done(1, 3, 0, 10, 1);
        d.done(2, 3, 0, 10, 2, 0, 0);
        d.done(3, 3, 0, 200, 7, 0);
        d.done(4, 5, 0);
        d.plan(10, 1, 10, 2, 200, 7);
        d.refused(6, 5, 5, 246);
        d.refused(6, 5, 5, 128);
        d.plan(10, 1, 10, 2, 200, 7);
        d.done(5, 5, 247);
        d.plan(1, 1, 1, 2, 191, 7);
        d.done(6, 5, 127);
        d.plan(128, 1, 128, 2, 318, 7);
        d.done(7, 3, 255, 254, 9, 0);
        d.done(8, 5, 1);
        d.plan(129, 1, 129, 2, 319, 7, 65535, 9);
        d.refused(6, 9, 5, 1);
        d.done(9, 5, 128);
        d.plan(1, 1, 1, 2, 191, 7, 65407, 9);
        d.ticks(1);
        d.plan(191, 7, 65407, 9);
    }

    private static void watchCommands() {
        Desk d = new Desk();
        d.done(1, 6, 2, 5, 250, 5, 3, 1);
        d.report(1, 0, 1, 6);
        Desk.due("watch", d.x.watch(2), 0);
        d.x.sense(5, -7);
        d.ticks(2);
        Desk.due("watch", d.x.watch(2), 2);
        d.done(2, 6, 2, 5, 250, 5, 3, 1);
        Desk.due("watch set anew", d.x.watch(2), 0);
        d.done(3, 7, 2);
        Desk.due("watch off", d.x.watch(2), -1);
        d.done(4, 7, 2);
        d.empty();
        d.ticks(4);
        d.noReport();
    }

    private static void actionCommands() {
        Desk d = new Desk();
        d.done(1, 8, 0, 2, 0, 1);
        Desk.due("action", d.x.action(0), 2);
        d.done(2, 8, 0, 7, 1);
        Desk.due("action in place of another", d.x.action(0), 7);
        d.done(3, 9, 1);
        Desk.due("action", d.x.action(0), 7);
        d.done(4, 9, 0);
        Desk.due("action dropped", d.x.action(0), 0);
        d.report(1, 0, 1, 8);
        d.report(1, 0, 2, 8);
        d.report(1, 0, 3, 9);
        d.report(1, 0, 4, 9);
    }

    private static void mode() {
        Desk d = new Desk();
        d.done(1, 11, 0);
        d.counts(1, 0, 1);
        d.done(2, 11, 1);
        d.counts(1, 1, 0);
        d.done(3, 11, 1);
        d.counts(1, 1, 0);
        d.done(4, 11, 0);
        d.counts(1, 0, 0);
        d.done(5, 4, 1);
        d.done(6, 11, 0);
        d.counts(1, 0, 1);
        d.counts(9, 6);
    }

    /** Commands that find already what they would bring about are done all the same. */
    private static void nothingToDo() {
        Desk d = new Desk();
        int[] before = d.state();
        int[][] commands = {{4, 1}, {4, 2}, {5, 100}, {7, 3}, {9, 3}, {10, 1, 0, 255}, {11, 0}, {2, 7, 0}};
        for (int[] command : commands) {
            int[] content = new int[command.length + 1];
            content[0] = command[0] + 100;
            System.arraycopy(command, 0, content, 1, command.length);
            d.done(content);
            d.report(1, 0, content[0], command[0]);
        }
        before[6] += commands.length;
        before[9] += commands.length;
        d.stateIs("with nothing to do", before);
        d.done(1, 4, 0);
        d.done(2, 4, 0);
        d.counts(2, 0);
    }

    /** x stands for x below 128, and for x - 256 from there on. */
    private static void signedArguments() {
        int[][] bytesAndValues = {
            {0, 0}, {1, 1}, {126, 126}, {127, 127}, {128, -128}, {129, -127}, {254, -2}, {255, -1},
        };
        for (int[] pair : bytesAndValues) {
            Desk d = new Desk();
            d.done(1, 2, 4, pair[0]);
            Desk.due("SET " + pair[0], d.x.parameter(4), pair[1]);
            d.done(2, 3, 1, 0, 1);
            d.done(3, 5, pair[0]);
            d.plan(256 + pair[1], 1);
            signedBounds(pair[0], pair[1]);
        }
    }

    /** A watch whose low and high are this byte finds this one value in its range. */
    private static void signedBounds(int bound, int value) {
        for (int v = Math.max(value - 1, -128); v <= Math.min(value + 1, 127); v++) {
            Desk d = new Desk();
            d.done(1, 6, 0, 0, bound, bound, 1, 0);
            d.x.sense(0, v);
            d.ticks(1);
            Desk.due("count of " + v + " in " + value + " .. " + value, d.x.watch(0), v == value ? 0 : 1);
        }
        Desk d = new Desk();
        d.x.sense(0, -value - 1);
        d.done(1, 6, 0, 0, bound, bound, 1, 0);
        d.ticks(1);
        Desk.due("count of the value turned", d.x.watch(0), 1);
    }
}
