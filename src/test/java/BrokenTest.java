/** Promise 2, its second part: which commands are broken, and with which code. */
public final class BrokenTest {
    private static final int[][] GOOD = {
        {1}, {2, 7, 255}, {3, 0, 9, 1}, {4, 2}, {5, 255}, {6, 3, 7, 128, 127, 3, 3}, {7, 3},
        {8, 3, 1}, {9, 3}, {10, 1, 255, 255}, {11, 1},
    };
    private static final int[] WANTED = {0, 0, 2, 2, 1, 1, 6, 1, 1, 1, 3, 1};

    public static void main(String[] args) {
        unknownServices();
        argumentNumbers();
        ranges();
        watchRanges();
        forbiddenInside();
        brokenInside();
        order();
        nothingChanges();
        Desk.finish();
    }

    private static int[] frame(int... command) {
        int[] content = new int[command.length + 1];
        content[0] = 77;
        System.arraycopy(command, 0, content, 1, command.length);
        return content;
    }

    private static int[] inside(int[] outer, int... command) {
        int[] all = new int[outer.length + command.length];
        System.arraycopy(outer, 0, all, 0, outer.length);
        System.arraycopy(command, 0, all, outer.length, command.length);
        return all;
    }

    /** The command by itself, in an AT, in an ACTION and in an ACTION in an AT, where it fits and may stand. */
    private static void brokenEverywhere(int code, int... command) {
        int[][] outers = {{}, {3, 1, 0}, {8, 2}, {3, 1, 0, 8, 2}};
        for (int[] outer : outers) {
            int service = command[0];
            boolean mayStand = outer.length == 0
                    || service != 3 && (service != 8 || outer[0] == 3 && outer.length == 3);
            int[] content = frame(inside(outer, command));
            if (mayStand && content.length <= 12) {
                new Desk().refused(code, content);
            }
        }
    }

    private static void goodEverywhere(int... command) {
        new Desk().done(frame(command));
        if (command[0] != 3) {
            new Desk().done(frame(inside(new int[] {3, 1, 0}, command)));
        }
        if (command[0] != 3 && command[0] != 8) {
            new Desk().done(frame(inside(new int[] {8, 2}, command)));
        }
    }

    private static void unknownServices() {
        for (int service = 0; service < 256; service++) {
            if (service < 1 || service > 11) {
                brokenEverywhere(1, service);
                brokenEverywhere(1, service, 1);
            }
        }
    }

    private static void argumentNumbers() {
        for (int[] good : GOOD) {
            goodEverywhere(good);
            boolean holds = good[0] == 3 || good[0] == 8;
            for (int n = 0; n <= 10; n++) {
                int[] command = new int[n + 1];
                System.arraycopy(good, 0, command, 0, Math.min(good.length, n + 1));
                if (holds ? n <= WANTED[good[0]] : n != WANTED[good[0]]) {
                    brokenEverywhere(2, command);
                }
            }
        }
    }

    private static void ranges() {
        int[] below = {0, 0, 8, 256, 3, 256, 4, 4, 4, 4, 2, 2};
        for (int[] good : GOOD) {
            for (int first = 0; good.length > 1 && first < 256; first++) {
                int[] command = good.clone();
                command[1] = first;
                if (first >= below[good[0]]) {
                    brokenEverywhere(3, command);
                } else if (good[0] != 5) {
                    goodEverywhere(command);
                }
            }
        }
        goodEverywhere(2, 0, 128);
        goodEverywhere(3, 0, 255, 1);
        goodEverywhere(10, 0, 0, 0);
    }

    private static void watchRanges() {
        for (int v = 0; v < 256; v++) {
            one(v < 8, 6, 0, v, 0, 0, 1, 0);
            one(v >= 1 && v <= 3, 6, 0, 0, 0, 0, v, 0);
            one(v < 4, 6, 0, 0, 0, 0, 1, v);
            one((byte) v <= 5, 6, 0, 0, v, 5, 1, 0);
            one((byte) v >= -5, 6, 0, 0, 251, v, 1, 0);
        }
    }

    private static void one(boolean good, int... command) {
        if (good) {
            goodEverywhere(command);
        } else {
            brokenEverywhere(3, command);
        }
    }

    private static void forbiddenInside() {
        new Desk().refused(3, 7, 3, 0, 9, 3, 0, 9, 1);
        new Desk().refused(3, 7, 8, 0, 3, 0, 9, 1);
        new Desk().refused(3, 7, 8, 0, 8, 1, 1);
        new Desk().refused(3, 7, 3, 0, 9, 8, 0, 3, 0, 9, 1);
        new Desk().refused(3, 7, 3, 0, 9, 8, 0, 8, 0, 1);
        new Desk().done(7, 3, 0, 9, 8, 0, 1);
        new Desk().done(7, 3, 0, 9, 8, 0, 10, 1, 2, 3);
    }

    private static void brokenInside() {
        new Desk().refused(1, 7, 3, 0, 9, 12);
        new Desk().refused(2, 7, 3, 0, 9, 2, 1);
        new Desk().refused(3, 7, 3, 0, 9, 2, 8, 1);
        new Desk().refused(2, 7, 3, 0, 9, 8, 0);
        new Desk().refused(3, 7, 3, 0, 9, 8, 4, 1);
        new Desk().refused(1, 7, 3, 0, 9, 8, 0, 0);
        new Desk().refused(2, 7, 3, 0, 9, 8, 0, 1, 1);
        new Desk().refused(3, 7, 3, 0, 9, 8, 0, 11, 2);
    }

    private static void order() {
        // Too few arguments come before their range, the outer range before what is inside.
        new Desk().refused(2, 7, 2, 9);
        new Desk().refused(2, 7, 8, 4);
        new Desk().refused(3, 7, 8, 4, 12);
        new Desk().refused(3, 7, 8, 4, 2, 1);
        // A service that may not be inside is not looked into.
        new Desk().refused(3, 7, 3, 0, 9, 3);
        new Desk().refused(3, 7, 8, 0, 8, 0, 12);
        new Desk().refused(3, 7, 8, 0, 3);
        // A broken command is told before it is refused.
        Desk safe = new Desk();
        safe.done(1, 11, 1);
        safe.refused(2, 7, 3, 0, 9);
        safe.refused(4, 7, 3, 0, 9, 1);
        Desk late = new Desk();
        late.refused(1, 7, 3, 0, 0, 12);
        late.refused(6, 7, 3, 0, 0, 1);
    }

    private static void nothingChanges() {
        Desk d = new Desk();
        d.refused(3, 1, 2, 8, 1);
        d.refused(3, 2, 6, 0, 0, 5, 4, 1, 0);
        d.refused(2, 3, 8, 1);
        d.refused(1, 4, 8, 1, 12);
        d.refused(1, 5, 3, 0, 5, 99);
        d.refused(3, 6, 11, 2);
        d.refused(3, 7, 4, 3);
        d.refused(3, 8, 10, 2, 1, 1);
        d.counts(0, 0, 0, 1, 0, 0, 0, 8, 0, 0, 0);
        Desk.due("watch", d.x.watch(0), -1);
        Desk.due("action", d.x.action(1), 0);
        d.ticks(2);
        d.noReport();
    }
}
