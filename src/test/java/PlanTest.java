/** Promises 8 and 9: the entries of the plan. */
public final class PlanTest {
    public static void main(String[] args) {
        byRisingTimes();
        equalTimes();
        wrongIndexes();
        everySize();
        everyService();
        takenOutFromTheFront();
        Desk.finish();
    }

    private static void byRisingTimes() {
        Desk d = new Desk();
        d.done(1, 3, 1, 0, 1);
        d.plan(256, 1);
        d.done(2, 3, 0, 255, 2, 0, 0);
        d.plan(255, 2, 256, 1);
        d.done(3, 3, 2, 1, 4, 0);
        d.plan(255, 2, 256, 1, 513, 4);
        d.done(4, 3, 1, 1, 5, 0);
        d.plan(255, 2, 256, 1, 257, 5, 513, 4);
        d.done(5, 3, 0, 1, 7, 0);
        d.done(6, 3, 255, 255, 9, 0);
        d.plan(1, 7, 255, 2, 256, 1, 257, 5, 513, 4, 65535, 9);
    }

    private static void equalTimes() {
        Desk d = new Desk();
        d.done(1, 3, 0, 9, 1);
        d.done(2, 3, 0, 9, 2, 0, 0);
        d.done(3, 3, 0, 8, 4, 1);
        d.done(4, 3, 0, 9, 5, 0);
        d.done(5, 3, 0, 8, 7, 0);
        d.plan(8, 4, 8, 7, 9, 1, 9, 2, 9, 5);
    }

    private static void wrongIndexes() {
        Desk d = new Desk();
        d.done(1, 3, 0, 9, 1);
        int[] wrong = {-1, 1, 5, 6, 7, 100, Integer.MIN_VALUE, Integer.MAX_VALUE};
        for (int k : wrong) {
            Desk.due("planned(" + k + ")", d.x.planned(k), Desk.R);
            Desk.due("plannedService(" + k + ")", d.x.plannedService(k), Desk.R);
        }
        for (int i = 2; i <= 6; i++) {
            d.done(i, 3, 0, 9, 1);
        }
        d.plan(9, 1, 9, 1, 9, 1, 9, 1, 9, 1, 9, 1);
        d.done(7, 4, 2);
        d.plan();
    }

    private static void everySize() {
        Desk d = new Desk();
        for (int size = 0; size <= 6; size++) {
            for (int k = -1; k <= 7; k++) {
                boolean there = k >= 0 && k < size;
                Desk.due("planned(" + k + ") of " + size, d.x.planned(k), there ? 10 + k : Desk.R);
                Desk.due("plannedService(" + k + ") of " + size, d.x.plannedService(k), there ? 7 : Desk.R);
            }
            if (size < 6) {
                d.done(size, 3, 0, 10 + size, 7, 0);
            }
        }
        d.ticks(10);
        for (int size = 5; size >= 0; size--) {
            Desk.due("planned behind the last of " + size, d.x.planned(size), Desk.R);
            Desk.due("plannedService behind the last of " + size, d.x.plannedService(size), Desk.R);
            Desk.due("the last of " + size, d.x.planned(size - 1), size == 0 ? Desk.R : 15);
            d.ticks(1);
        }
    }

    private static void everyService() {
        int[][] commands = {
            {1}, {2, 0, 0}, {4, 1}, {5, 0}, {6, 0, 0, 0, 0, 1, 0}, {7, 0}, {8, 0, 1}, {9, 0},
            {10, 0, 0, 0}, {11, 0},
        };
        for (int[] command : commands) {
            Desk d = new Desk();
            int[] content = new int[4 + command.length];
            content[0] = 5;
            content[1] = 3;
            content[3] = 1;
            System.arraycopy(command, 0, content, 4, command.length);
            d.done(content);
            d.plan(1, command[0]);
            d.empty();
            d.ticks(1);
            d.plan();
            if (command[0] == 1) {
                d.report(3, 1, 256, 0);
            }
            d.report(1, 1, 256, command[0]);
            d.noReport();
        }
    }

    private static void takenOutFromTheFront() {
        Desk d = new Desk();
        for (int i = 1; i <= 6; i++) {
            d.done(i, 3, 0, i / 2 + 1, 2, i, i);
        }
        d.plan(1, 2, 2, 2, 2, 2, 3, 2, 3, 2, 4, 2);
        d.ticks(1);
        d.plan(2, 2, 2, 2, 3, 2, 3, 2, 4, 2);
        d.done(7, 3, 0, 2, 1);
        d.plan(2, 2, 2, 2, 2, 1, 3, 2, 3, 2, 4, 2);
        d.ticks(1);
        d.plan(3, 2, 3, 2, 4, 2);
        for (int p = 1; p <= 6; p++) {
            Desk.due("parameter " + p, d.x.parameter(p), p <= 3 ? p : 0);
        }
        d.ticks(2);
        d.plan();
        for (int p = 1; p <= 6; p++) {
            Desk.due("parameter " + p, d.x.parameter(p), p);
        }
    }
}
