/** Promise 1: the state that a new object is in. */
public final class NewObjectTest {
    public static void main(String[] args) {
        Desk d = new Desk();
        d.counts(0, 0, 0, 1, 0, 0, 0, 0, 0, 0, 0);
        for (int p = 0; p < 8; p++) {
            Desk.due("parameter " + p, d.x.parameter(p), 0);
        }
        for (int i = 0; i < 4; i++) {
            Desk.due("watch " + i, d.x.watch(i), -1);
            Desk.due("action " + i, d.x.action(i), 0);
            Desk.due("report " + i, d.x.report(i), Desk.R);
        }
        d.plan();
        Desk.due("take", d.x.take(), Desk.R);
        Desk.due("the receiver skips", d.x.uplink(2), 5);
        d.ticks(20);
        d.noReport();
        objectsShareNothing();
        Desk.finish();
    }

    private static void objectsShareNothing() {
        Desk one = new Desk();
        Desk other = new Desk();
        one.done(1, 2, 0, 5);
        one.done(2, 3, 0, 9, 1);
        one.done(3, 8, 0, 1);
        one.done(4, 6, 0, 0, 1, 2, 1, 0);
        one.done(5, 10, 0, 1, 1);
        one.done(6, 11, 1);
        one.x.uplink(235);
        other.counts(0, 0, 0, 1, 0, 0, 0, 0, 0, 0, 0);
        Desk.due("parameter", other.x.parameter(0), 0);
        Desk.due("watch", other.x.watch(0), -1);
        Desk.due("action", other.x.action(0), 0);
        Desk.due("uplink", other.x.uplink(2), 5);
        other.ticks(1);
        other.noReport();
    }
}
