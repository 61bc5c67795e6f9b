/** Promise 2, its first part: which bytes make a frame. */
public final class ReceiverTest {
    public static void main(String[] args) {
        bytesOutOfRange();
        skipping();
        everyLength();
        everyCheck();
        startsInsideFrames();
        sequenceNumbers();
        Desk.finish();
    }

    private static void bytesOutOfRange() {
        int[] wrong = {-1, 256, 235 + 256, -21, Integer.MIN_VALUE, Integer.MAX_VALUE};
        Desk d = new Desk();
        int[] frame = {235, 2, 40, 1, Desk.check(40, 1)};
        for (int i = 0; i < frame.length; i++) {
            for (int w : wrong) {
                Desk.due("uplink(" + w + ")", d.x.uplink(w), Desk.R);
            }
            Desk.due("byte " + i, d.x.uplink(frame[i]), i == 4 ? 1 : 0);
        }
        d.counts(6, 1, 0, 0, 1);
    }

    private static void skipping() {
        Desk d = new Desk();
        for (int b = 0; b < 256; b++) {
            if (b != 235) {
                Desk.due("uplink(" + b + ")", d.x.uplink(b), 5);
            }
        }
        d.counts(6, 0, 0, 255, 0);
        d.done(1, 1);
        Desk.due("after a frame", d.x.uplink(0), 5);
        d.counts(6, 1, 0, 256, 1);
    }

    private static void everyLength() {
        for (int n = 0; n < 256; n++) {
            Desk d = new Desk();
            Desk.due("start", d.x.uplink(235), 0);
            boolean good = n >= 2 && n <= 12;
            Desk.due("length " + n, d.x.uplink(n), good ? 0 : 3);
            d.counts(6, 0, good ? 0 : 1, 0);
            if (!good) {
                Desk.due("the byte behind", d.x.uplink(2), 5);
                d.done(3, 1);
                d.counts(6, 1, 1, 1);
                continue;
            }
            int[] content = new int[n];
            for (int i = 0; i < n; i++) {
                content[i] = 200 + i;
                Desk.due("content", d.x.uplink(content[i]), 0);
            }
            Desk.due("check", d.x.uplink(Desk.check(content)), 2);
            d.counts(6, 1, 0, 0);
        }
    }

    private static void everyCheck() {
        for (int c = 0; c < 256; c++) {
            Desk d = new Desk();
            int[] frame = {235, 4, 10, 2, 3, 250};
            for (int b : frame) {
                Desk.due("byte " + b, d.x.uplink(b), 0);
            }
            // 91 is the check that a shared test gives for this content.
            Desk.due("check " + c, d.x.uplink(c), c == 91 ? 1 : 4);
            Desk.due("parameter", d.x.parameter(3), c == 91 ? -6 : 0);
            d.counts(6, c == 91 ? 1 : 0, c == 91 ? 0 : 1, 0);
            Desk.due("reports", d.x.count(4), c == 91 ? 1 : 0);
            Desk.due("the byte behind", d.x.uplink(1), 5);
            d.done(1, 1);
        }
    }

    private static void startsInsideFrames() {
        Desk d = new Desk();
        Desk.due("start", d.x.uplink(235), 0);
        Desk.due("a start as length", d.x.uplink(235), 3);
        Desk.due("is no start", d.x.uplink(2), 5);
        d.done(235, 2, 1, 235);
        Desk.due("parameter", d.x.parameter(1), -21);
        d.report(1, 0, 235, 2);
        Desk.due("start", d.x.uplink(235), 0);
        Desk.due("length", d.x.uplink(2), 0);
        Desk.due("number", d.x.uplink(1), 0);
        Desk.due("service", d.x.uplink(1), 0);
        Desk.due("a start as check", d.x.uplink(235), 4);
        Desk.due("is no start", d.x.uplink(2), 5);
        d.counts(6, 1, 2, 2, 1);
    }

    private static void sequenceNumbers() {
        for (int number = 0; number < 256; number++) {
            Desk d = new Desk();
            d.done(number, 1);
            d.report(3, 0, number, 0);
            d.report(1, 0, number, 1);
            d.noReport();
            d.refused(1, number, 0);
        }
    }
}
