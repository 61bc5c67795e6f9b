/** Promise 2, its second part: which commands are broken, and with which code. */
public final class BrokenTest {
    private static final int[][] GOOD = {
        {1}, {2, 7, 255}, {3, 0, 9, 1}, {4, 2}, {5, 255}, {6, 3, 7, 128, 127, 3, 3}, {7, 3},
        {8, 3, 1}, {9, 3}, {10, 1, 255, 255}, {11, 1},
    };
    private static final int[] WANTED = {0, 0, 2, 2, 1, 1, 6, 1, 1, 1, 3, 1};

    public static void main(String[] args) {
        unknownServices();
        argumentNumbers();
        setOfAParameterBelow8();
        runBelow3();
        watchBelow4();
        watchOverAParameterBelow8();
        watchHighNotBelowLow();
        watchCountOf1To3();
        watchEventBelow4();
        unwatchBelow4();
        actionBelow4();
        dropBelow4();
        houseBelow2();
        modeBelow2();
        argumentsOfAnyValue();
        notInsideAnAt();
        notInsideAnAction();
        atLeastAServiceInside();
        brokenInside();
        numberBeforeRange();
        rangeBeforeInside();
        forbiddenInsideIsNotLookedInto();
        brokenBeforeRefused();
        nothingChanges();
        Desk.finish();
    }

    private static int[] frame(int... command) {
        return join(new int[] {77}, command);
    }

    private static int[] join(int[] outer, int... command) {
        int[] all = new int[outer.length + command.length];
        System.arraycopy(outer, 0, all, 0, outer.length);
        System.arraycopy(command, 0, all, outer.length, command.length);
        return all;
    }

    /** The command by itself, in an AT, in an ACTION and in an ACTION in an AT, where it fits and may stand. */
    private static void brokenEverywhere(int code, int... command) {
        int[][] outers = {{}, {3, 1, 0}, {8, 2}, {3, 1, 0, 8, 2}};
        for (int[] outer : outers) {
            int service = command[0];
            boolean mayStand = outer.length == 0
                    || service != 3 && (service != 8 || outer[0] == 3 && outer.length == 3);
            int[] content = frame(join(outer, command));
            if (mayStand && content.length <= 12) {
                new Desk().refused(code, content);
            }
        }
    }

    private static void goodEverywhere(int... command) {
        new Desk().done(frame(command));
        if (command[0] != 3) {
            new Desk().done(frame(join(new int[] {3, 1, 0}, command)));
        }
        if (command[0] != 3 && command[0] != 8) {
            new Desk().done(frame(join(new int[] {8, 2}, command)));
        }
    }

    private static void goodOrBroken(boolean good, int... command) {
        if (good) {
            goodEverywhere(command);
        } else {
            brokenEverywhere(3, command);
        }
    }

    /** Every byte in the place of the argument; good are those from least to most. */
    private static void onlyFromTo(int least, int most, int place, int... command) {
        for (int v = 0; v < 256; v++) {
            int[] changed = command.clone();
            changed[place] = v;
            goodOrBroken(v >= least && v <= most, changed);
        }
    }

    private static void unknownServices() {
        for (int service = 0; service < 256; service++) {
            if (service < 1 || service > 11) {
                brokenEverywhere(1, service);
                brokenEverywhere(1, service, 1);
                brokenEverywhere(1, service, 0, 0, 0, 0, 1, 0);
            }
        }
    }

    private static void argumentNumbers() {
        for (int[] good : GOOD) {
            goodEverywhere(good);
            boolean holds = good[0] == 3 || good[0] == 8;
            for (int n = 0; n <= 10; n++) {
                int[] command = new int[n + 1];
                System.arraycopy(good, 0, command, 0, Math.min(good.length, n + 1));
                if (holds ? n <= WANTED[good[0]] : n != WANTED[good[0]]) {
                    brokenEverywhere(2, command);
                }
            }
        }
    }

    private static void setOfAParameterBelow8() {
        onlyFromTo(0, 7, 1, 2, 0, 1);
    }

    private static void runBelow3() {
        onlyFromTo(0, 2, 1, 4, 0);
    }

    private static void watchBelow4() {
        onlyFromTo(0, 3, 1, 6, 0, 0, 0, 0, 1, 0);
    }

    private static void watchOverAParameterBelow8() {
        onlyFromTo(0, 7, 2, 6, 0, 0, 0, 0, 1, 0);
    }

    private static void watchHighNotBelowLow() {
        int[] bounds = {-128, -127, -1, 0, 1, 126, 127};
        for (int low : bounds) {
            for (int high : bounds) {
                goodOrBroken(high >= low, 6, 0, 0, low & 255, high & 255, 1, 0);
            }
        }
        for (int v = 0; v < 256; v++) {
            goodOrBroken((byte) v <= 5, 6, 0, 0, v, 5, 1, 0);
            goodOrBroken((byte) v >= -5, 6, 0, 0, 251, v, 1, 0);
        }
    }

    private static void watchCountOf1To3() {
        onlyFromTo(1, 3, 5, 6, 0, 0, 0, 0, 1, 0);
    }

    private static void watchEventBelow4() {
        onlyFromTo(0, 3, 6, 6, 0, 0, 0, 0, 1, 0);
    }

    private static void unwatchBelow4() {
        onlyFromTo(0, 3, 1, 7, 0);
    }

    private static void actionBelow4() {
        onlyFromTo(0, 3, 1, 8, 0, 1);
    }

    private static void dropBelow4() {
        onlyFromTo(0, 3, 1, 9, 0);
    }

    private static void houseBelow2() {
        onlyFromTo(0, 1, 1, 10, 0, 1, 1);
    }

    private static void modeBelow2() {
        onlyFromTo(0, 1, 1, 11, 0);
    }

    private static void argumentsOfAnyValue() {
        onlyFromTo(0, 255, 2, 2, 0, 0);
        onlyFromTo(0, 255, 1, 3, 0, 9, 1);
        onlyFromTo(0, 255, 2, 3, 1, 1, 1);
        onlyFromTo(0, 255, 1, 5, 0);
        onlyFromTo(0, 255, 2, 10, 0, 0, 0);
        onlyFromTo(0, 255, 3, 10, 0, 0, 0);
    }

    private static void notInsideAnAt() {
        new Desk().refused(3, 7, 3, 0, 9, 3, 0, 9, 1);
        for (int[] good : GOOD) {
            if (good[0] != 3) {
                new Desk().done(join(new int[] {7, 3, 0, 9}, good));
            }
        }
    }

    private static void notInsideAnAction() {
        new Desk().refused(3, 7, 8, 0, 3, 0, 9, 1);
        new Desk().refused(3, 7, 8, 0, 8, 1, 1);
        new Desk().refused(3, 7, 3, 0, 9, 8, 0, 3, 0, 9, 1);
        new Desk().refused(3, 7, 3, 0, 9, 8, 0, 8, 0, 1);
        for (int[] good : GOOD) {
            if (good[0] != 3 && good[0] != 8) {
                new Desk().done(join(new int[] {7, 8, 0}, good));
            }
        }
        new Desk().done(7, 3, 0, 9, 8, 0, 1);
        new Desk().done(7, 3, 0, 9, 8, 0, 10, 1, 2, 3);
    }

    private static void atLeastAServiceInside() {
        new Desk().refused(2, 7, 3, 0, 9);
        new Desk().done(7, 3, 0, 9, 1);
        new Desk().refused(2, 7, 8, 0);
        new Desk().done(7, 8, 0, 1);
        new Desk().refused(2, 7, 3, 0, 9, 8, 0);
        new Desk().done(7, 3, 0, 9, 8, 0, 1);
    }

    private static void brokenInside() {
        new Desk().refused(1, 7, 3, 0, 9, 12);
        new Desk().refused(2, 7, 3, 0, 9, 2, 1);
        new Desk().refused(3, 7, 3, 0, 9, 2, 8, 1);
        new Desk().refused(1, 7, 8, 0, 0);
        new Desk().refused(2, 7, 8, 0, 2, 1);
        new Desk().refused(3, 7, 8, 0, 2, 8, 1);
        new Desk().refused(3, 7, 3, 0, 9, 8, 4, 1);
        new Desk().refused(1, 7, 3, 0, 9, 8, 0, 0);
        new Desk().refused(2, 7, 3, 0, 9, 8, 0, 1, 1);
        new Desk().refused(3, 7, 3, 0, 9, 8, 0, 11, 2);
    }

    private static void numberBeforeRange() {
        new Desk().refused(2, 7, 2, 8);
        new Desk().refused(2, 7, 2, 8, 0, 0);
        new Desk().refused(2, 7, 4, 3, 0);
        new Desk().refused(2, 7, 6, 4, 8, 1, 0, 0);
        new Desk().refused(2, 7, 8, 4);
        new Desk().refused(2, 7, 11, 2, 2);
        new Desk().refused(1, 7, 12, 8);
    }

    private static void rangeBeforeInside() {
        new Desk().refused(3, 7, 8, 4, 12);
        new Desk().refused(3, 7, 8, 4, 2, 1);
        new Desk().refused(1, 7, 8, 3, 12);
        new Desk().refused(2, 7, 8, 3, 2, 1);
        new Desk().refused(3, 7, 3, 0, 9, 8, 4, 12);
    }

    private static void forbiddenInsideIsNotLookedInto() {
        new Desk().refused(3, 7, 3, 0, 9, 3);
        new Desk().refused(3, 7, 8, 0, 8, 0, 12);
        new Desk().refused(3, 7, 8, 0, 8);
        new Desk().refused(3, 7, 8, 0, 3);
        new Desk().refused(3, 7, 3, 0, 9, 8, 0, 3);
    }

    private static void brokenBeforeRefused() {
        Desk safe = new Desk();
        safe.done(1, 11, 1);
        safe.refused(1, 7, 12);
        safe.refused(2, 7, 3, 0, 9);
        safe.refused(3, 7, 4, 3);
        safe.refused(4, 7, 3, 0, 9, 1);
        Desk late = new Desk();
        late.refused(1, 7, 3, 0, 0, 12);
        late.refused(6, 7, 3, 0, 0, 1);
        Desk full = new Desk();
        for (int i = 0; i < 6; i++) {
            full.done(i, 3, 0, 9, 1);
        }
        full.refused(3, 7, 3, 0, 9, 7, 4);
        full.refused(5, 7, 3, 0, 9, 7, 3);
    }

    private static void nothingChanges() {
        int[][] unknown = {
            {0}, {12}, {255, 1}, {3, 0, 9, 0}, {3, 0, 9, 12, 1}, {8, 0, 12}, {8, 3, 255, 1, 1}, {3, 0, 9, 8, 0, 0},
        };
        int[][] wrongNumber = {
            {1, 0}, {2, 0}, {2, 0, 1, 1}, {3}, {3, 0}, {3, 0, 9}, {4}, {4, 1, 1}, {5}, {5, 1, 1}, {6, 3, 0, 0, 0, 1},
            {6, 0, 0, 0, 0, 1, 0, 0}, {7}, {7, 0, 0}, {8}, {8, 0}, {9}, {9, 0, 0}, {10, 0, 1}, {10, 0, 1, 1, 1}, {11},
            {11, 1, 1}, {3, 0, 9, 1, 1}, {3, 0, 9, 2, 0}, {8, 0, 1, 1}, {8, 3, 2, 0}, {3, 0, 9, 8, 0, 2, 0},
        };
        int[][] outOfRange = {
            {2, 8, 1}, {4, 3}, {6, 4, 0, 0, 0, 1, 0}, {6, 0, 8, 0, 0, 1, 0}, {6, 0, 0, 1, 0, 1, 0},
            {6, 0, 0, 0, 0, 0, 0}, {6, 0, 0, 0, 0, 4, 0}, {6, 0, 0, 0, 0, 1, 4}, {7, 4}, {8, 4, 1}, {9, 4},
            {10, 2, 1, 1}, {11, 2}, {3, 0, 9, 3, 0, 9, 1}, {8, 0, 3, 0, 9, 1}, {8, 0, 8, 0, 1},
            {3, 0, 9, 8, 0, 8, 0, 1}, {3, 0, 9, 2, 8, 1},
            {8, 0, 2, 8, 1}, {3, 0, 9, 8, 3, 11, 2}, {3, 0, 9, 8, 4, 1},
        };
        int[][][] byCode = {unknown, wrongNumber, outOfRange};
        for (Scene scene : Scene.values()) {
            for (int code = 1; code <= 3; code++) {
                for (int[] command : byCode[code - 1]) {
                    Twins.refused(scene, code, frame(command));
                }
            }
        }
    }
}
