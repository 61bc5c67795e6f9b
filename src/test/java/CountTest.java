/** Promise 12: what is counted. */
public final class CountTest {
    public static void main(String[] args) {
        wrongQuestions();
        allCounts();
        Desk.finish();
    }

    private static void wrongQuestions() {
        Desk d = new Desk();
        int[] wrong = {-1, 10, 11, 100, Integer.MIN_VALUE, Integer.MAX_VALUE};
        for (int what : wrong) {
            Desk.due("count(" + what + ")", d.x.count(what), Desk.R);
        }
        d.ticks(3);
        d.done(1, 7, 0);
        Desk.due("the first count", d.x.count(0), 3);
        Desk.due("the last count", d.x.count(9), 1);
    }

    private static void allCounts() {
        Desk d = new Desk();
        d.x.uplink(1);
        d.x.uplink(1);
        d.x.uplink(235);
        d.counts(0, 0, 0, 1, 0, 0, 0, 0, 0, 2, 0);
        d.x.uplink(13);
        d.counts(0, 0, 0, 1, 0, 0, 0, 0, 1, 2, 0);
        d.done(1, 3, 0, 2, 1);
        d.done(2, 3, 0, 3, 7, 0);
        d.done(3, 3, 0, 3, 9, 0);
        d.counts(0, 0, 0, 1, 3, 3, 0, 3, 1, 2, 3);
        d.refused(2, 4, 1, 1);
        d.refused(6, 5, 3, 0, 0, 1);
        d.counts(0, 0, 0, 1, 3, 0, 0, 5, 1, 2, 3);
        d.ticks(2);
        d.counts(0, 2, 0, 1, 2, 2, 0, 5, 1, 2, 4);
        d.done(6, 6, 1, 0, 1, 1, 1, 1);
        d.done(7, 8, 1, 2, 0, 1);
        d.ticks(1);
        d.counts(0, 3, 0, 1, 0, 8, 0, 7, 1, 2, 9);
        d.done(8, 11, 1);
        d.counts(0, 3, 1, 0, 0, 9, 0, 8, 1, 2, 10);
        d.done(9, 1);
        d.counts(0, 3, 1, 0, 0, 10, 1, 9, 1, 2, 11);
        d.x.take();
        d.counts(0, 3, 1, 0, 0, 9, 1, 9, 1, 2, 11);
        refusedCallsChangeNothing(d);
        d.counts(0, 3, 1, 0, 0, 9, 1, 9, 1, 2, 11);
    }

    private static void refusedCallsChangeNothing(Desk d) {
        int[] answers = {
            d.x.uplink(-1), d.x.uplink(256), d.x.report(4), d.x.report(-1), d.x.parameter(8), d.x.sense(8, 0),
            d.x.sense(0, 128), d.x.planned(0), d.x.plannedService(-1), d.x.watch(4), d.x.action(4), d.x.count(10),
        };
        for (int answer : answers) {
            Desk.due("a refused call", answer, Desk.R);
        }
    }
}
