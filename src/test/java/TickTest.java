/** Promise 3: what a tick does, and in which order. */
public final class TickTest {
    public static void main(String[] args) {
        planInOrder();
        allOutBeforeAnyIsCarriedOut();
        planTurnsSafe();
        planShiftsTheRest();
        plannedActionStays();
        actionTurnsWatches();
        actionDropsItself();
        actionIsRefused();
        lists();
        planThenWatchesThenLists();
        safeStillWatches();
        Desk.finish();
    }

    private static void planInOrder() {
        Desk d = new Desk();
        d.done(1, 4, 0);
        d.done(2, 3, 0, 3, 2, 0, 1);
        d.done(3, 3, 0, 1, 2, 0, 2);
        d.done(4, 3, 0, 3, 1);
        d.done(5, 3, 0, 2, 7, 0);
        d.done(6, 3, 0, 3, 2, 0, 3);
        d.done(7, 3, 0, 5, 9, 0);
        d.ticks(3);
        d.done(8, 4, 1);
        d.empty();
        d.ticks(1);
        d.report(1, 4, 256, 2);
        d.report(1, 4, 256, 7);
        d.report(1, 4, 256, 2);
        d.report(3, 4, 256, 1);
        d.report(1, 4, 256, 1);
        d.report(1, 4, 256, 2);
        d.noReport();
        Desk.due("parameter", d.x.parameter(0), 3);
        d.plan(5, 9);
        d.ticks(1);
        d.report(1, 5, 256, 9);
        d.ticks(3);
        d.noReport();
    }

    private static void allOutBeforeAnyIsCarriedOut() {
        Desk d = new Desk();
        d.done(1, 3, 0, 1, 4, 0);
        d.done(2, 3, 0, 1, 4, 2);
        d.done(3, 3, 0, 1, 2, 0, 1);
        d.done(4, 3, 0, 2, 2, 0, 2);
        d.empty();
        d.ticks(1);
        d.report(1, 1, 256, 4);
        d.report(1, 1, 256, 4);
        d.report(1, 1, 256, 2);
        d.noReport();
        d.plan();
        d.counts(2, 0);
        Desk.due("parameter", d.x.parameter(0), 1);
    }

    private static void planTurnsSafe() {
        Desk d = new Desk();
        d.done(1, 3, 0, 1, 11, 1);
        d.done(2, 3, 0, 1, 9, 0);
        d.done(3, 3, 0, 1, 2, 0, 1);
        d.empty();
        d.ticks(1);
        d.report(1, 1, 256, 11);
        d.report(2, 1, 256, 4);
        d.report(1, 1, 256, 2);
        d.noReport();
        d.counts(9, 5);
    }

    private static void planShiftsTheRest() {
        Desk d = new Desk();
        d.done(1, 3, 0, 2, 5, 255);
        d.done(2, 3, 0, 2, 5, 254);
        d.done(3, 3, 0, 5, 1);
        d.empty();
        d.ticks(2);
        d.report(1, 2, 256, 5);
        d.report(2, 2, 256, 6);
        d.plan(4, 1);
        d.ticks(2);
        d.report(3, 4, 256, 0);
        d.report(1, 4, 256, 1);
    }

    private static void plannedActionStays() {
        Desk d = new Desk();
        d.done(1, 3, 0, 1, 8, 2, 10, 1, 1, 4);
        d.done(2, 6, 0, 2, 0, 0, 1, 2);
        d.ticks(1);
        Desk.due("action", d.x.action(2), 10);
        // Another command in the plan's places must leave the action as it is.
        d.done(3, 3, 0, 3, 2, 7, 7);
        d.x.sense(2, 50);
        d.empty();
        d.ticks(1);
        d.report(4, 2, 2, 50);
        d.report(1, 2, 257, 10);
        d.report(5, 2, 1, 50);
        d.ticks(1);
        d.report(1, 3, 256, 2);
        d.report(5, 3, 1, 50);
        d.noReport();
    }

    private static void actionTurnsWatches() {
        Desk d = new Desk();
        d.x.sense(1, 5);
        d.done(1, 6, 1, 1, 0, 0, 1, 0);
        d.done(2, 6, 2, 1, 0, 0, 1, 1);
        d.done(3, 8, 0, 7, 2);
        d.empty();
        d.ticks(1);
        d.report(4, 1, 0, 5);
        d.report(1, 1, 257, 7);
        d.noReport();
        Desk.due("watch 2", d.x.watch(2), -1);

        // A watch that an action turns on has its turn in this tick if that is still to come.
        Desk on = new Desk();
        on.x.sense(1, 5);
        on.done(1, 6, 1, 1, 0, 0, 1, 0);
        on.done(2, 8, 0, 6, 2, 1, 0, 0, 2, 1);
        on.ticks(1);
        Desk.due("watch 2", on.x.watch(2), 1);
        Desk before = new Desk();
        before.x.sense(1, 5);
        before.done(1, 6, 1, 1, 0, 0, 1, 0);
        before.done(2, 8, 0, 6, 0, 1, 0, 0, 2, 1);
        before.ticks(1);
        Desk.due("watch 0", before.x.watch(0), 0);

        // A watch whose action sets it anew counts from 0 and so finds its event again.
        Desk again = new Desk();
        again.x.sense(1, 5);
        again.done(1, 6, 1, 1, 0, 0, 1, 0);
        again.done(2, 8, 0, 6, 1, 1, 0, 0, 1, 0);
        again.empty();
        again.ticks(2);
        Desk.due("watch 1", again.x.watch(1), 0);
        again.report(4, 1, 0, 5);
        again.report(1, 1, 257, 6);
        again.report(4, 2, 0, 5);
        again.report(1, 2, 257, 6);
        again.noReport();
    }

    private static void actionDropsItself() {
        Desk d = new Desk();
        d.x.sense(0, 1);
        d.done(1, 6, 0, 0, 0, 0, 1, 3);
        d.done(2, 6, 1, 0, 0, 0, 1, 3);
        d.done(3, 8, 3, 9, 3);
        d.empty();
        d.ticks(1);
        d.report(4, 1, 3, 1);
        d.report(1, 1, 257, 9);
        d.report(4, 1, 3, 1);
        d.noReport();
        Desk.due("action", d.x.action(3), 0);
        d.counts(9, 4);
    }

    private static void actionIsRefused() {
        Desk d = new Desk();
        d.x.sense(0, 1);
        d.done(1, 6, 0, 0, 0, 0, 1, 0);
        d.done(2, 6, 1, 0, 0, 0, 1, 1);
        d.done(3, 8, 0, 11, 1);
        d.done(4, 8, 1, 4, 1);
        d.empty();
        d.ticks(1);
        d.report(4, 1, 0, 1);
        d.report(1, 1, 257, 11);
        d.report(4, 1, 1, 1);
        d.report(2, 1, 257, 4);
        d.noReport();
        d.counts(1, 1, 0);
        d.counts(9, 5);

        Desk shift = new Desk();
        shift.done(1, 3, 0, 2, 1);
        shift.done(2, 8, 0, 5, 255);
        shift.done(3, 6, 0, 0, 1, 1, 1, 0);
        shift.empty();
        shift.ticks(1);
        shift.report(4, 1, 0, 0);
        shift.report(2, 1, 257, 6);
    }

    private static void lists() {
        Desk d = new Desk();
        for (int p = 0; p < 8; p++) {
            d.x.sense(p, 1 << Math.min(p, 6));
        }
        d.x.sense(7, -128);
        d.done(1, 10, 1, 2, 255);
        d.done(2, 10, 0, 3, 129);
        d.empty();
        for (int clock = 1; clock <= 12; clock++) {
            d.ticks(1);
            if (clock % 3 == 0) {
                d.report(5, clock, 0, -127);
            }
            if (clock % 2 == 0) {
                d.report(5, clock, 1, -1);
            }
            d.noReport();
        }
        for (int p = 0; p < 8; p++) {
            d.done(3, 10, 0, 1, 1 << p);
            d.done(4, 10, 1, 0, 255);
            d.empty();
            d.ticks(1);
            d.report(5, 13 + p, 0, d.x.parameter(p));
            d.noReport();
        }
    }

    private static void planThenWatchesThenLists() {
        Desk d = new Desk();
        d.done(1, 3, 0, 1, 2, 0, 9);
        d.done(2, 6, 0, 0, 0, 0, 1, 0);
        d.done(3, 6, 3, 0, 0, 7, 1, 3);
        d.done(4, 8, 0, 2, 0, 8);
        d.done(5, 10, 0, 1, 1);
        d.done(6, 10, 1, 1, 3);
        d.empty();
        d.ticks(1);
        d.report(1, 1, 256, 2);
        d.report(4, 1, 0, 9);
        d.report(1, 1, 257, 2);
        d.report(4, 1, 3, 8);
        d.report(5, 1, 0, 8);
        d.report(5, 1, 1, 8);
        d.noReport();
    }

    private static void safeStillWatches() {
        Desk d = new Desk();
        d.done(1, 3, 0, 1, 2, 0, 9);
        d.done(2, 6, 0, 1, 1, 1, 1, 2);
        d.done(3, 10, 0, 1, 1);
        d.done(4, 11, 1);
        d.empty();
        d.ticks(1);
        d.report(4, 1, 2, 0);
        d.report(5, 1, 0, 0);
        d.noReport();
        d.plan(1, 2);
    }
}
