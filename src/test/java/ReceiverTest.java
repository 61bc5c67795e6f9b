import java.util.Arrays;

/** Promise 2, its first part: which bytes make a frame. */
public final class ReceiverTest {
    public static void main(String[] args) {
        bytesOutOfRange();
        bytesBeforeAStart();
        everyLength();
        aDroppedLengthIsNoStart();
        exactlyAsManyContentBytes();
        everyCheck();
        theCheckTurnsRound();
        aWrongCheckIsNoStart();
        startsInsideContent();
        sequenceNumbers();
        droppedFramesChangeNothing();
        skippedBytesChangeNothing();
        Desk.finish();
    }

    private static void bytesOutOfRange() {
        int[] wrong = {-1, 256, 235 + 256, -21, Integer.MIN_VALUE, Integer.MAX_VALUE};
        Desk d = new Desk();
        int[] frame = {235, 2, 40, 1, Desk.check(40, 1)};
        for (int i = 0; i < frame.length; i++) {
            for (int w : wrong) {
                Desk.due("uplink(" + w + ")", d.x.uplink(w), Desk.R);
            }
            Desk.due("byte " + i, d.x.uplink(frame[i]), i == 4 ? 1 : 0);
        }
        d.counts(6, 1, 0, 0, 1);
        Desk.due("the least byte", d.x.uplink(0), 5);
        Desk.due("the greatest byte", d.x.uplink(255), 5);
        d.counts(6, 1, 0, 2, 1);
    }

    private static void bytesBeforeAStart() {
        Desk d = new Desk();
        for (int b = 0; b < 256; b++) {
            if (b != 235) {
                Desk.due("uplink(" + b + ")", d.x.uplink(b), 5);
            }
        }
        d.counts(6, 0, 0, 255, 0);
        d.done(1, 1);
        Desk.due("after a frame", d.x.uplink(0), 5);
        d.counts(6, 1, 0, 256, 1);
    }

    private static void everyLength() {
        for (int n = 0; n < 256; n++) {
            Desk d = new Desk();
            Desk.due("start", d.x.uplink(235), 0);
            boolean good = n >= 2 && n <= 12;
            Desk.due("length " + n, d.x.uplink(n), good ? 0 : 3);
            d.counts(6, 0, good ? 0 : 1, 0);
            if (!good) {
                Desk.due("the byte behind", d.x.uplink(2), 5);
                d.done(3, 1);
                d.counts(6, 1, 1, 1);
                continue;
            }
            int[] content = new int[n];
            for (int i = 0; i < n; i++) {
                content[i] = 200 + i;
                Desk.due("content", d.x.uplink(content[i]), 0);
            }
            Desk.due("check", d.x.uplink(Desk.check(content)), 2);
            d.counts(6, 1, 0, 0);
        }
    }

    private static void aDroppedLengthIsNoStart() {
        Desk d = new Desk();
        Desk.due("start", d.x.uplink(235), 0);
        Desk.due("a start as length", d.x.uplink(235), 3);
        Desk.due("what would be a length", d.x.uplink(2), 5);
        Desk.due("what would be content", d.x.uplink(1), 5);
        Desk.due("start", d.x.uplink(235), 0);
        Desk.due("a start as length", d.x.uplink(235), 3);
        d.done(1, 1);
        d.counts(6, 1, 2, 2, 1);
    }

    /** A byte that would be the right check is content as long as content is due, and no content comes behind. */
    private static void exactlyAsManyContentBytes() {
        for (int n = 3; n <= 12; n++) {
            Desk d = new Desk();
            Desk.due("start", d.x.uplink(235), 0);
            Desk.due("length", d.x.uplink(n), 0);
            int[] content = {9, 1};
            Desk.due("number", d.x.uplink(9), 0);
            Desk.due("service", d.x.uplink(1), 0);
            while (content.length < n) {
                int[] longer = Arrays.copyOf(content, content.length + 1);
                longer[content.length] = Desk.check(content);
                Desk.due("an early check in " + n, d.x.uplink(Desk.check(content)), 0);
                content = longer;
            }
            d.counts(6, 0, 0, 0, 0);
            Desk.due("the check of " + n, d.x.uplink(Desk.check(content)), 2);
            d.counts(6, 1, 0, 0, 0);
            Desk.due("a byte behind", d.x.uplink(Desk.check(content)), 5);
        }
    }

    private static void everyCheck() {
        for (int c = 0; c < 256; c++) {
            Desk d = new Desk();
            int[] frame = {235, 4, 10, 2, 3, 250};
            for (int b : frame) {
                Desk.due("byte " + b, d.x.uplink(b), 0);
            }
            // 91 is the check that a shared test gives for this content.
            Desk.due("check " + c, d.x.uplink(c), c == 91 ? 1 : 4);
            Desk.due("parameter", d.x.parameter(3), c == 91 ? -6 : 0);
            d.counts(6, c == 91 ? 1 : 0, c == 91 ? 0 : 1, 0);
            Desk.due("reports", d.x.count(4), c == 91 ? 1 : 0);
            Desk.due("the byte behind", d.x.uplink(1), 5);
            d.done(1, 1);
        }
    }

    /** Checks worked out by hand: the bit that leaves at the top comes in at the bottom. */
    private static void theCheckTurnsRound() {
        // 255 stays 255 when it is turned, so the first byte leaves 255 - x; that is turned for the second.
        int[][] numberAndCheck = {
            {0, 254}, {255, 1}, {254, 3}, {127, 0}, {128, 255}, {126, 2}, {129, 253}, {191, 129}, {63, 128},
        };
        for (int[] pair : numberAndCheck) {
            for (int off = -1; off <= 1; off++) {
                Desk d = new Desk();
                int[] frame = {235, 2, pair[0], 1};
                for (int b : frame) {
                    Desk.due("byte " + b, d.x.uplink(b), 0);
                }
                int answer = d.x.uplink(pair[1] + off & 255);
                Desk.due("check of " + pair[0] + " off by " + off, answer, off == 0 ? 1 : 4);
            }
        }
    }

    private static void aWrongCheckIsNoStart() {
        Desk d = new Desk();
        int[] frame = {235, 2, 1, 1};
        for (int b : frame) {
            Desk.due("byte " + b, d.x.uplink(b), 0);
        }
        Desk.due("a start as check", d.x.uplink(235), 4);
        Desk.due("what would be a length", d.x.uplink(2), 5);
        d.done(1, 1);
        d.counts(6, 1, 1, 1, 1);
    }

    private static void startsInsideContent() {
        Desk d = new Desk();
        d.done(235, 2, 1, 235);
        Desk.due("parameter", d.x.parameter(1), -21);
        d.report(1, 0, 235, 2);
        d.refused(1, 235, 235);
        // A right check may be a START: 255 - 9 is 246, turned it is 237, and 6 makes that 235.
        Desk.due("a right check of 235", Desk.check(9, 6), 235);
        d.refused(2, 9, 6);
        d.counts(6, 3, 0, 0, 1);
    }

    private static void sequenceNumbers() {
        for (int number = 0; number < 256; number++) {
            Desk d = new Desk();
            d.done(number, 1);
            d.report(3, 0, number, 0);
            d.report(1, 0, number, 1);
            d.noReport();
            d.refused(1, number, 0);
        }
    }

    /** Frames that would change something but have a wrong check, against frames that are dropped by N. */
    private static void droppedFramesChangeNothing() {
        int[][] commands = {
            {40, 2, 3, 5}, {40, 3, 0, 9, 1}, {40, 4, 2}, {40, 5, 9}, {40, 6, 3, 0, 0, 0, 1, 0}, {40, 7, 0},
            {40, 8, 3, 1}, {40, 9, 0}, {40, 10, 0, 1, 255}, {40, 11, 1},
        };
        for (Scene scene : Scene.values()) {
            for (int[] content : commands) {
                Twins t = new Twins("wrong check of " + Desk.name(content), scene);
                int[] before = t.one.state();
                t.one.start(content);
                Desk.due("a wrong check", t.one.x.uplink(Desk.check(content) ^ 128), 4);
                before[7]++;
                t.oneIs("after it", before);
                t.other.x.uplink(235);
                Desk.due("a wrong length", t.other.x.uplink(13), 3);
                t.liveOn();
            }
        }
    }

    private static void skippedBytesChangeNothing() {
        for (Scene scene : Scene.values()) {
            for (int b : new int[] {0, 1, 234, 236, 255}) {
                Twins t = new Twins("skipped " + b, scene);
                int[] before = t.one.state();
                Desk.due("a skipped byte", t.one.x.uplink(b), 5);
                before[8]++;
                t.oneIs("after it", before);
                t.other.x.uplink(7);
                t.liveOn();
            }
        }
    }
}
