/** Promises 4 and 5: the reports that wait in the store. */
public final class StoreTest {
    public static void main(String[] args) {
        reportOfAnotherWhat();
        reportOfAnEmptyStore();
        takeOfAnEmptyStore();
        takeAnswersWhatIsLeft();
        oldestFirst();
        nineTenAndEleven();
        fullStore();
        pingIntoNine();
        pingIntoTen();
        refusalIntoAFullStore();
        takenReportsAreNotLost();
        roundAndRound();
        Desk.finish();
    }

    private static void reportOfAnotherWhat() {
        Desk d = new Desk();
        d.ticks(4);
        d.done(99, 7, 2);
        for (int what : new int[] {-1, 4, 5, 256, Integer.MIN_VALUE, Integer.MAX_VALUE}) {
            Desk.due("report(" + what + ")", d.x.report(what), Desk.R);
            d.counts(4, 1, 0);
        }
        d.report(1, 4, 99, 7);
        d.noReport();
    }

    private static void reportOfAnEmptyStore() {
        Desk d = new Desk();
        for (int round = 0; round < 3; round++) {
            for (int what = -2; what < 6; what++) {
                Desk.due("report(" + what + ") of none", d.x.report(what), Desk.R);
            }
            d.counts(4, 0, 0);
            d.done(round, 7, 0);
            d.report(1, 0, round, 7);
        }
    }

    private static void takeOfAnEmptyStore() {
        Desk d = new Desk();
        for (int round = 0; round < 3; round++) {
            Desk.due("take of none", d.x.take(), Desk.R);
            Desk.due("take of none again", d.x.take(), Desk.R);
            d.counts(4, 0, 0);
            d.done(round, 7, 0);
            d.counts(4, 1, 0);
            Desk.due("report of one", d.x.report(2), round);
            Desk.due("take of one", d.x.take(), 0);
        }
    }

    private static void takeAnswersWhatIsLeft() {
        for (int reports = 1; reports <= 12; reports++) {
            Desk d = new Desk();
            for (int i = 0; i < reports; i++) {
                d.done(i, 7, 0);
            }
            for (int left = Math.min(reports, 10) - 1; left >= 0; left--) {
                Desk.due("take of " + (left + 1), d.x.take(), left);
                d.counts(4, left);
            }
            Desk.due("take of none", d.x.take(), Desk.R);
        }
    }

    private static void oldestFirst() {
        Desk d = new Desk();
        for (int i = 0; i < 10; i++) {
            d.done(i, 7, 0);
            d.ticks(1);
            d.counts(4, i + 1, 0);
        }
        for (int i = 0; i < 10; i++) {
            d.report(1, i, i, 7);
        }
        d.noReport();
    }

    private static void nineTenAndEleven() {
        Desk d = new Desk();
        for (int i = 1; i <= 9; i++) {
            d.done(i, 7, 0);
        }
        d.counts(4, 9, 0);
        d.done(10, 7, 0);
        d.counts(4, 10, 0);
        Desk.due("the oldest of ten", d.x.report(2), 1);
        d.done(11, 7, 0);
        d.counts(4, 10, 1);
        for (int i = 2; i <= 11; i++) {
            d.report(1, 0, i, 7);
        }
        d.noReport();
    }

    private static void fullStore() {
        Desk d = new Desk();
        for (int i = 0; i < 23; i++) {
            d.done(i, 7, 0);
            d.counts(4, Math.min(i + 1, 10), Math.max(i - 9, 0));
        }
        Desk.due("take", d.x.take(), 9);
        d.counts(4, 9, 13);
        d.done(50, 9, 1);
        d.counts(4, 10, 13);
        d.done(51, 1);
        d.counts(4, 10, 15);
        for (int i = 16; i < 23; i++) {
            d.report(1, 0, i, 7);
        }
        d.report(1, 0, 50, 9);
        d.report(3, 0, 51, 0);
        d.report(1, 0, 51, 1);
        d.noReport();
        d.counts(5, 15);
    }

    /** The PONG takes the last place, so the DONE behind it finds the store full. */
    private static void pingIntoNine() {
        Desk d = new Desk();
        for (int i = 1; i <= 9; i++) {
            d.done(i, 7, 0);
        }
        d.done(10, 1);
        d.counts(4, 10, 1);
        for (int i = 2; i <= 9; i++) {
            d.report(1, 0, i, 7);
        }
        d.report(3, 0, 10, 0);
        d.report(1, 0, 10, 1);
        d.noReport();
    }

    private static void pingIntoTen() {
        Desk d = new Desk();
        for (int i = 1; i <= 10; i++) {
            d.done(i, 7, 0);
        }
        d.done(11, 1);
        d.counts(4, 10, 2);
        Desk.due("the oldest", d.x.report(2), 3);
    }

    private static void refusalIntoAFullStore() {
        Desk d = new Desk();
        for (int i = 1; i <= 10; i++) {
            d.done(i, 7, 0);
        }
        Desk.due("a broken command", d.send(11, 12), 2);
        d.counts(4, 10, 1);
        Desk.due("a refused command", d.send(12, 3, 0, 0, 1), 2);
        d.counts(4, 10, 2);
        for (int i = 3; i <= 10; i++) {
            d.report(1, 0, i, 7);
        }
        d.report(2, 0, 11, 1);
        d.report(2, 0, 12, 6);
        d.noReport();
    }

    private static void takenReportsAreNotLost() {
        Desk d = new Desk();
        for (int i = 1; i <= 10; i++) {
            d.done(i, 7, 0);
        }
        d.empty();
        d.counts(4, 0, 0);
        for (int i = 11; i <= 21; i++) {
            d.done(i, 7, 0);
        }
        d.counts(4, 10, 1);
        d.empty();
        d.counts(4, 0, 1);
    }

    private static void roundAndRound() {
        Desk d = new Desk();
        d.done(0, 7, 0);
        for (int i = 1; i < 30; i++) {
            d.done(i, 7, 0);
            d.report(1, 0, i - 1, 7);
        }
        d.counts(4, 1, 0);
    }
}
