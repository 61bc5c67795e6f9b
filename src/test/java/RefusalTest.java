/** Promise 2, its fourth part: which commands that are not broken are refused, with which code, in which order. */
public final class RefusalTest {
    /** One command of each service, from 1 on. */
    private static final int[][] EACH = {
        {1}, {2, 1, 1}, {3, 0, 9, 1}, {4, 1}, {5, 1}, {6, 1, 0, 0, 0, 1, 0}, {7, 0}, {8, 1, 1}, {9, 0}, {10, 0, 1, 1},
        {11, 0},
    };

    public static void main(String[] args) {
        whenSafe();
        whenNormalAgain();
        safeRefusesThePlanAndActions();
        planOfFiveAndSix();
        planFullInside();
        atNotAboveTheClock();
        atAboveTheFirstByte();
        shiftToTheClock();
        shiftToTheLastTime();
        shiftOfAnEmptyPlan();
        shiftOfAFullPlan();
        shiftOfAPlanInThePast();
        shiftFromThePlanAndAnAction();
        safeBeforeFull();
        fullBeforeTime();
        safeBeforeTime();
        reports();
        nothingChanges();
        Desk.finish();
    }

    private static boolean mayBeDoneWhenSafe(int service) {
        return service == 1 || service == 2 || service == 7 || service == 11;
    }

    private static int[] behind(int[] outer, int... command) {
        int[] all = new int[outer.length + command.length];
        System.arraycopy(outer, 0, all, 0, outer.length);
        System.arraycopy(command, 0, all, outer.length, command.length);
        return all;
    }

    private static int[] frame(int number, int... command) {
        return behind(new int[] {number}, command);
    }

    private static void whenSafe() {
        for (int[] command : EACH) {
            new Desk().done(frame(30, command));
            Desk d = new Desk();
            d.done(29, 11, 1);
            if (mayBeDoneWhenSafe(command[0])) {
                d.done(frame(30, command));
            } else {
                d.refused(4, frame(30, command));
            }
        }
    }

    private static void whenNormalAgain() {
        for (int[] command : EACH) {
            Desk d = new Desk();
            d.done(28, 11, 1);
            d.done(29, 11, 0);
            d.done(frame(30, command));
        }
    }

    private static void safeRefusesThePlanAndActions() {
        for (int[] command : EACH) {
            int service = command[0];
            boolean doneWhenSafe = mayBeDoneWhenSafe(service);
            if (service != 3) {
                Desk planned = new Desk();
                planned.done(1, 3, 0, 1, 11, 1);
                planned.done(behind(new int[] {2, 3, 0, 1}, command));
                planned.empty();
                planned.ticks(1);
                planned.report(1, 1, 256, 11);
                theEnd(planned, 256, service, doneWhenSafe);
            }
            if (service != 3 && service != 8) {
                Desk acting = new Desk();
                acting.done(behind(new int[] {2, 8, 2}, command));
                acting.done(3, 6, 0, 7, 1, 1, 1, 2);
                acting.done(4, 11, 1);
                acting.empty();
                acting.ticks(1);
                acting.report(4, 1, 2, 0);
                theEnd(acting, 257, service, doneWhenSafe);
            }
        }
    }

    private static void theEnd(Desk d, int number, int service, boolean done) {
        if (service == 1) {
            d.report(3, 1, number, 0);
        }
        d.report(done ? 1 : 2, 1, number, done ? service : 4);
        d.noReport();
    }

    private static void planOfFiveAndSix() {
        Desk d = new Desk();
        for (int i = 0; i < 6; i++) {
            d.counts(3, i);
            d.done(i, 3, 0, 20 - i, 1);
        }
        d.refused(5, 6, 3, 0, 20, 1);
        d.plan(15, 1, 16, 1, 17, 1, 18, 1, 19, 1, 20, 1);
        d.ticks(15);
        d.done(7, 3, 0, 16, 2, 0, 1);
        d.plan(16, 1, 16, 2, 17, 1, 18, 1, 19, 1, 20, 1);
        d.refused(5, 6, 3, 0, 20, 1);
        d.done(8, 4, 2);
        d.done(9, 3, 0, 16, 1);
        d.plan(16, 1);
    }

    /** A full plan refuses an AT, and nothing else: not an ACTION, which holds a command too. */
    private static void planFullInside() {
        for (int[] command : EACH) {
            Desk d = new Desk();
            for (int i = 0; i < 6; i++) {
                d.done(i, 3, 0, 20, 7, 0);
            }
            if (command[0] == 3) {
                d.refused(5, frame(30, command));
            } else {
                d.done(frame(30, command));
            }
        }
    }

    private static void atNotAboveTheClock() {
        Desk d = new Desk();
        d.refused(6, 1, 3, 0, 0, 1);
        d.done(1, 3, 0, 1, 1);
        d.ticks(3);
        d.refused(6, 2, 3, 0, 2, 1);
        d.refused(6, 3, 3, 0, 3, 1);
        d.done(4, 3, 0, 4, 1);
        d.done(5, 3, 255, 255, 11, 0);
        d.done(6, 3, 1, 2, 7, 0);
        d.plan(4, 1, 258, 7, 65535, 11);
    }

    private static void atAboveTheFirstByte() {
        Desk d = new Desk();
        d.ticks(256);
        d.refused(6, 1, 3, 0, 255, 1);
        d.refused(6, 1, 3, 1, 0, 1);
        d.done(1, 3, 1, 1, 1);
        d.plan(257, 1);
    }

    private static void shiftToTheClock() {
        Desk d = new Desk();
        d.done(1, 3, 0, 10, 1);
        d.done(2, 3, 0, 10, 2, 0, 0);
        d.done(3, 3, 0, 200, 7, 0);
        d.done(4, 5, 0);
        d.plan(10, 1, 10, 2, 200, 7);
        d.refused(6, 5, 5, 246);
        d.refused(6, 5, 5, 128);
        d.plan(10, 1, 10, 2, 200, 7);
        d.done(5, 5, 247);
        d.plan(1, 1, 1, 2, 191, 7);
        d.refused(6, 5, 5, 255);
        d.done(6, 5, 127);
        d.plan(128, 1, 128, 2, 318, 7);
        d.ticks(100);
        d.refused(6, 7, 5, 228);
        d.done(7, 5, 229);
        d.plan(101, 1, 101, 2, 291, 7);
    }

    private static void shiftToTheLastTime() {
        Desk d = new Desk();
        d.done(1, 3, 0, 200, 1);
        d.done(2, 3, 255, 250, 9, 0);
        d.refused(6, 3, 5, 127);
        d.refused(6, 3, 5, 6);
        d.plan(200, 1, 65530, 9);
        d.done(4, 5, 5);
        d.plan(205, 1, 65535, 9);
        d.refused(6, 5, 5, 1);
        d.done(6, 5, 0);
        d.done(7, 5, 128);
        d.plan(77, 1, 65407, 9);
        d.done(8, 5, 127);
        d.plan(204, 1, 65534, 9);
        d.refused(6, 9, 5, 2);
        d.done(10, 5, 1);
        d.plan(205, 1, 65535, 9);
    }

    private static void shiftOfAnEmptyPlan() {
        Desk d = new Desk();
        for (int shift : new int[] {0, 1, 127, 128, 255}) {
            d.done(shift, 5, shift);
            d.report(1, 0, shift, 5);
        }
        d.plan();
        d.done(1, 3, 0, 9, 1);
        d.refused(6, 2, 5, 128);
        d.done(3, 4, 2);
        d.done(4, 5, 128);
    }

    private static void shiftOfAFullPlan() {
        Desk d = new Desk();
        for (int i = 1; i <= 6; i++) {
            d.done(i, 3, 0, 2 * i, 7, 0);
        }
        d.done(7, 5, 3);
        d.plan(5, 7, 7, 7, 9, 7, 11, 7, 13, 7, 15, 7);
        d.refused(6, 8, 5, 251);
        d.done(9, 5, 252);
        d.plan(1, 7, 3, 7, 5, 7, 7, 7, 9, 7, 11, 7);
    }

    private static void shiftOfAPlanInThePast() {
        Desk d = new Desk();
        d.done(1, 4, 0);
        d.done(2, 3, 0, 2, 1);
        d.ticks(5);
        d.refused(6, 3, 5, 0);
        d.refused(6, 3, 5, 3);
        d.plan(2, 1);
        d.done(3, 5, 4);
        d.plan(6, 1);
    }

    private static void shiftFromThePlanAndAnAction() {
        Desk d = new Desk();
        d.done(1, 3, 0, 2, 5, 253);
        d.done(2, 3, 0, 2, 5, 254);
        d.done(3, 3, 0, 5, 7, 0);
        d.done(4, 8, 0, 5, 1);
        d.done(5, 8, 1, 5, 254);
        d.done(6, 6, 0, 0, 1, 1, 3, 0);
        d.done(7, 6, 1, 0, 1, 1, 3, 1);
        d.empty();
        d.ticks(2);
        d.report(2, 2, 256, 6);
        d.report(1, 2, 256, 5);
        d.plan(3, 7);
        d.done(8, 4, 0);
        d.done(9, 5, 1);
        d.empty();
        d.ticks(1);
        d.report(4, 3, 0, 0);
        d.report(1, 3, 257, 5);
        d.report(4, 3, 1, 0);
        d.report(2, 3, 257, 6);
        d.noReport();
        d.plan(5, 7);
    }

    private static Desk full() {
        Desk d = new Desk();
        for (int i = 0; i < 6; i++) {
            d.done(i, 3, 0, 2, 1);
        }
        return d;
    }

    private static void safeBeforeFull() {
        Desk d = full();
        d.refused(5, 7, 3, 0, 9, 1);
        d.done(8, 11, 1);
        d.refused(4, 9, 3, 0, 9, 1);
    }

    private static void fullBeforeTime() {
        Desk d = full();
        d.refused(5, 7, 3, 0, 0, 1);
        d.done(8, 4, 2);
        d.refused(6, 9, 3, 0, 0, 1);
    }

    private static void safeBeforeTime() {
        Desk d = full();
        d.refused(6, 7, 5, 254);
        d.done(8, 11, 1);
        d.refused(4, 9, 5, 254);
        d.refused(4, 9, 3, 0, 0, 1);
    }

    /** A refused command gives one report, at the clock and with the number of its frame. */
    private static void reports() {
        Desk d = new Desk();
        d.ticks(7);
        for (int number : new int[] {0, 1, 127, 128, 255}) {
            Desk.due("a time gone", d.send(number, 3, 0, 7, 1), 2);
            d.report(2, 7, number, 6);
            d.noReport();
        }
        d.counts(9, 0);
        d.counts(6, 5);
    }

    private static void nothingChanges() {
        for (int[] command : EACH) {
            if (!mayBeDoneWhenSafe(command[0])) {
                Twins.refused(Scene.SAFE, 4, frame(30, command));
            }
        }
        Twins.refused(Scene.SAFE, 4, 30, 4, 0);
        Twins.refused(Scene.SAFE, 4, 30, 4, 2);
        Twins.refused(Scene.SAFE, 4, 30, 8, 0, 1);
        Twins.refused(Scene.PLAN_FULL, 5, 30, 3, 0, 9, 1);
        Twins.refused(Scene.PLAN_FULL, 5, 30, 3, 0, 0, 1);
        Twins.refused(Scene.PLAN_FULL, 6, 30, 5, 253);
        for (Scene scene : new Scene[] {Scene.BUSY, Scene.STORE_FULL}) {
            Twins.refused(scene, 6, 30, 3, 0, 0, 1);
            Twins.refused(scene, 6, 30, 3, 0, 1, 2, 0, 99);
            Twins.refused(scene, 6, 30, 5, 1);
            Twins.refused(scene, 6, 30, 5, 127);
            Twins.refused(scene, 6, 30, 5, 253);
            Twins.refused(scene, 6, 30, 5, 128);
        }
        Twins.refused(Scene.PLAN_RESTS, 6, 30, 5, 0);
        Twins.refused(Scene.PLAN_RESTS, 6, 30, 3, 0, 5, 1);
        Twins.refused(Scene.NEW, 6, 30, 3, 0, 0, 1);
    }
}
