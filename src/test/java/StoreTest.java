/** Promises 4 and 5: the reports that wait in the store. */
public final class StoreTest {
    public static void main(String[] args) {
        wrongQuestions();
        oldestFirst();
        fullStore();
        roundAndRound();
        Desk.finish();
    }

    private static void wrongQuestions() {
        Desk d = new Desk();
        int[] wrong = {-1, 4, 5, Integer.MIN_VALUE, Integer.MAX_VALUE};
        for (int what = -2; what < 6; what++) {
            Desk.due("report(" + what + ") of none", d.x.report(what), Desk.R);
        }
        Desk.due("take of none", d.x.take(), Desk.R);
        d.ticks(4);
        d.done(99, 7, 2);
        for (int what : wrong) {
            Desk.due("report(" + what + ")", d.x.report(what), Desk.R);
        }
        d.counts(4, 1);
        d.report(1, 4, 99, 7);
        Desk.due("take of none", d.x.take(), Desk.R);
        Desk.due("report of none", d.x.report(0), Desk.R);
        d.counts(4, 0, 0);
    }

    private static void oldestFirst() {
        Desk d = new Desk();
        for (int i = 0; i < 10; i++) {
            d.done(i, 7, 0);
            d.ticks(1);
            d.counts(4, i + 1, 0);
        }
        for (int i = 0; i < 10; i++) {
            d.report(1, i, i, 7);
        }
        d.noReport();
    }

    private static void fullStore() {
        Desk d = new Desk();
        for (int i = 0; i < 23; i++) {
            d.done(i, 7, 0);
            d.counts(4, Math.min(i + 1, 10), Math.max(i - 9, 0));
        }
        Desk.due("take", d.x.take(), 9);
        d.counts(4, 9, 13);
        d.done(50, 9, 1);
        d.counts(4, 10, 13);
        d.done(51, 1);
        d.counts(4, 10, 15);
        for (int i = 16; i < 23; i++) {
            d.report(1, 0, i, 7);
        }
        d.report(1, 0, 50, 9);
        d.report(3, 0, 51, 0);
        d.report(1, 0, 51, 1);
        d.noReport();
        d.counts(5, 15);
    }

    private static void roundAndRound() {
        Desk d = new Desk();
        d.done(0, 7, 0);
        for (int i = 1; i < 30; i++) {
            d.done(i, 7, 0);
            d.report(1, 0, i - 1, 7);
        }
        d.counts(4, 1, 0);
    }
}
