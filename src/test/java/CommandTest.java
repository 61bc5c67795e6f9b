/** Promise 2, its third part: what each command does, and when it is refused. */
public final class CommandTest {
    public static void main(String[] args) {
        ping();
        set();
        planFull();
        timeNotAboveClock();
        run();
        shift();
        shiftOfAFullPlan();
        shiftInThePast();
        watchCommands();
        actionCommands();
        mode();
        whenSafe();
        orderOfRefusals();
        Desk.finish();
    }

    private static void ping() {
        Desk d = new Desk();
        d.done(9, 1);
        d.report(3, 0, 9, 0);
        d.report(1, 0, 9, 1);
        for (int p = 0; p < 8; p++) {
            d.x.sense(p, p % 2 == 0 ? 127 : -128);
            d.ticks(1);
            d.done(p, 1);
            d.report(3, p + 1, p, p + 1);
            d.report(1, p + 1, p, 1);
        }
        d.noReport();
    }

    private static void set() {
        for (int v = 0; v < 256; v++) {
            Desk d = new Desk();
            int p = v % 8;
            d.done(v, 2, p, v);
            for (int q = 0; q < 8; q++) {
                Desk.due("parameter " + q, d.x.parameter(q), q == p ? (byte) v : 0);
            }
            d.report(1, 0, v, 2);
            d.noReport();
        }
    }

    private static void planFull() {
        Desk d = new Desk();
        for (int i = 0; i < 6; i++) {
            d.done(i, 3, 0, 20 - i, 1);
        }
        d.refused(5, 6, 3, 0, 20, 1);
        d.refused(5, 6, 3, 0, 0, 1);
        d.plan(15, 1, 16, 1, 17, 1, 18, 1, 19, 1, 20, 1);
        d.ticks(15);
        d.done(7, 3, 0, 16, 2, 0, 1);
        d.plan(16, 1, 16, 2, 17, 1, 18, 1, 19, 1, 20, 1);
        d.refused(5, 6, 3, 0, 20, 1);
    }

    private static void timeNotAboveClock() {
        Desk d = new Desk();
        d.refused(6, 1, 3, 0, 0, 1);
        d.done(1, 3, 0, 1, 1);
        d.ticks(3);
        d.refused(6, 2, 3, 0, 2, 1);
        d.refused(6, 3, 3, 0, 3, 1);
        d.done(4, 3, 0, 4, 1);
        d.done(5, 3, 255, 255, 11, 0);
        d.done(6, 3, 1, 2, 7, 0);
        d.plan(4, 1, 258, 7, 65535, 11);
    }

    private static void run() {
        Desk d = new Desk();
        d.done(1, 3, 0, 2, 2, 0, 1);
        d.done(2, 4, 0);
        d.counts(2, 0, 1);
        d.ticks(3);
        d.plan(2, 2);
        d.done(3, 4, 1);
        d.counts(2, 1, 1);
        Desk.due("parameter", d.x.parameter(0), 0);
        d.ticks(1);
        Desk.due("parameter", d.x.parameter(0), 1);
        d.plan();
        d.done(4, 3, 0, 9, 1);
        d.done(5, 4, 2);
        d.counts(2, 1, 0);
        d.done(6, 4, 0);
        d.done(7, 4, 2);
        d.counts(2, 0, 0);
        d.empty();
        d.ticks(10);
        d.noReport();
    }

    private static void shift() {
        Desk d = new Desk();
        d.done(1, 5, 128);
        d.done(2, 5, 127);
        d.done(1, 3, 0, 10, 1);
        d.done(2, 3, 0, 10, 2, 0, 0);
        d.done(3, 3, 0, 200, 7, 0);
        d.done(4, 5, 0);
        d.plan(10, 1, 10, 2, 200, 7);
        d.refused(6, 5, 5, 246);
        d.refused(6, 5, 5, 128);
        d.plan(10, 1, 10, 2, 200, 7);
        d.done(5, 5, 247);
        d.plan(1, 1, 1, 2, 191, 7);
        d.done(6, 5, 127);
        d.plan(128, 1, 128, 2, 318, 7);
        d.done(7, 3, 255, 254, 9, 0);
        d.done(8, 5, 1);
        d.plan(129, 1, 129, 2, 319, 7, 65535, 9);
        d.refused(6, 9, 5, 1);
        d.done(9, 5, 128);
        d.plan(1, 1, 1, 2, 191, 7, 65407, 9);
        d.ticks(1);
        d.plan(191, 7, 65407, 9);
    }

    private static void shiftOfAFullPlan() {
        Desk d = new Desk();
        for (int i = 1; i <= 6; i++) {
            d.done(i, 3, 0, 2 * i, 7, 0);
        }
        d.done(7, 5, 3);
        d.plan(5, 7, 7, 7, 9, 7, 11, 7, 13, 7, 15, 7);
        d.refused(6, 8, 5, 251);
        d.done(9, 5, 252);
        d.plan(1, 7, 3, 7, 5, 7, 7, 7, 9, 7, 11, 7);
    }

    private static void shiftInThePast() {
        Desk d = new Desk();
        d.done(1, 4, 0);
        d.done(2, 3, 0, 2, 1);
        d.ticks(5);
        d.refused(6, 3, 5, 0);
        d.refused(6, 3, 5, 3);
        d.plan(2, 1);
        d.done(3, 5, 4);
        d.plan(6, 1);
    }

    private static void watchCommands() {
        Desk d = new Desk();
        d.done(1, 6, 2, 5, 250, 5, 3, 1);
        d.report(1, 0, 1, 6);
        Desk.due("watch", d.x.watch(2), 0);
        d.x.sense(5, -7);
        d.ticks(2);
        Desk.due("watch", d.x.watch(2), 2);
        d.done(2, 6, 2, 5, 250, 5, 3, 1);
        Desk.due("watch set anew", d.x.watch(2), 0);
        d.done(3, 7, 2);
        Desk.due("watch off", d.x.watch(2), -1);
        d.done(4, 7, 2);
        d.empty();
        d.ticks(4);
        d.noReport();
    }

    private static void actionCommands() {
        Desk d = new Desk();
        d.done(1, 8, 0, 2, 0, 1);
        Desk.due("action", d.x.action(0), 2);
        d.done(2, 8, 0, 7, 1);
        Desk.due("action in place of another", d.x.action(0), 7);
        d.done(3, 9, 1);
        Desk.due("action", d.x.action(0), 7);
        d.done(4, 9, 0);
        Desk.due("action dropped", d.x.action(0), 0);
        d.report(1, 0, 1, 8);
        d.report(1, 0, 2, 8);
        d.report(1, 0, 3, 9);
        d.report(1, 0, 4, 9);
    }

    private static void mode() {
        Desk d = new Desk();
        d.done(1, 11, 0);
        d.counts(1, 0, 1);
        d.done(2, 11, 1);
        d.counts(1, 1, 0);
        d.done(3, 11, 1);
        d.counts(1, 1, 0);
        d.done(4, 11, 0);
        d.counts(1, 0, 0);
        d.done(5, 4, 1);
        d.done(6, 11, 0);
        d.counts(1, 0, 1);
        d.counts(9, 6);
    }

    private static void whenSafe() {
        Desk d = new Desk();
        d.done(1, 3, 0, 9, 1);
        d.done(2, 8, 0, 1);
        d.done(3, 6, 0, 0, 0, 0, 1, 0);
        d.done(4, 11, 1);
        d.refused(4, 5, 3, 0, 9, 1);
        d.refused(4, 5, 4, 1);
        d.refused(4, 5, 5, 1);
        d.refused(4, 5, 6, 0, 0, 0, 0, 1, 0);
        d.refused(4, 5, 8, 1, 1);
        d.refused(4, 5, 9, 0);
        d.refused(4, 5, 10, 0, 1, 1);
        d.plan(9, 1);
        Desk.due("action 0", d.x.action(0), 1);
        Desk.due("action 1", d.x.action(1), 0);
        d.done(6, 1);
        d.done(7, 2, 1, 1);
        d.done(8, 7, 0);
        d.done(9, 11, 0);
        d.done(10, 9, 0);
    }

    private static void orderOfRefusals() {
        Desk d = new Desk();
        for (int i = 0; i < 6; i++) {
            d.done(i, 3, 0, 2, 1);
        }
        d.refused(5, 7, 3, 0, 0, 1);
        d.done(8, 11, 1);
        d.refused(4, 9, 3, 0, 0, 1);
        d.refused(4, 9, 5, 128);
    }
}
